section
-- ===== PART A: goes FIRST, ahead of the names: the tables' words, and 'selects' of the private methods out of them =====
/-- a private method of a class that the tables say can be made, by its rows of tables_1 -/
def lw_okq (q : MethodName × Nat) : Prop := (q.1.cls ≠ "java/lang/invoke/MethodHandle" ∧ q.1.cls ≠ "java/lang/invoke/VarHandle") ∧ Cond.instantiable q.1.cls q.2 ∈ tables_1 ∧ Cond.privateMethod q.1 ∈ tables_1 ∧ Cond.instanceMethod q.1 ∈ tables_1
theorem lw_p0 : lw_okq (⟨"ReadAhead", "toldOfAll", "(I)I"⟩, 4) := ⟨⟨by decide +kernel, by decide +kernel⟩, List.mem_of_getElem? (i := 11) (by decide +kernel), List.mem_of_getElem? (i := 243) (by decide +kernel), List.mem_of_getElem? (i := 244) (by decide +kernel)⟩
theorem lw_p1 : lw_okq (⟨"ReadAhead", "toldOfOne", "(II)I"⟩, 4) := ⟨⟨by decide +kernel, by decide +kernel⟩, List.mem_of_getElem? (i := 11) (by decide +kernel), List.mem_of_getElem? (i := 247) (by decide +kernel), List.mem_of_getElem? (i := 248) (by decide +kernel)⟩
theorem lw_p2 : lw_okq (⟨"ReadAhead$House", "demand", "(II)V"⟩, 11) := ⟨⟨by decide +kernel, by decide +kernel⟩, List.mem_of_getElem? (i := 19) (by decide +kernel), List.mem_of_getElem? (i := 281) (by decide +kernel), List.mem_of_getElem? (i := 282) (by decide +kernel)⟩
theorem lw_p3 : lw_okq (⟨"ReadAhead$House", "serve", "(III)I"⟩, 11) := ⟨⟨by decide +kernel, by decide +kernel⟩, List.mem_of_getElem? (i := 19) (by decide +kernel), List.mem_of_getElem? (i := 293) (by decide +kernel), List.mem_of_getElem? (i := 294) (by decide +kernel)⟩
theorem lw_p4 : lw_okq (⟨"ReadAhead$House", "leaver", "(I)I"⟩, 11) := ⟨⟨by decide +kernel, by decide +kernel⟩, List.mem_of_getElem? (i := 19) (by decide +kernel), List.mem_of_getElem? (i := 300) (by decide +kernel), List.mem_of_getElem? (i := 301) (by decide +kernel)⟩
theorem lw_p5 : lw_okq (⟨"ReadAhead$House", "turnAway", "(II)V"⟩, 11) := ⟨⟨by decide +kernel, by decide +kernel⟩, List.mem_of_getElem? (i := 19) (by decide +kernel), List.mem_of_getElem? (i := 312) (by decide +kernel), List.mem_of_getElem? (i := 313) (by decide +kernel)⟩
theorem lw_p6 : lw_okq (⟨"ReadAhead$House", "letGo", "(I)V"⟩, 11) := ⟨⟨by decide +kernel, by decide +kernel⟩, List.mem_of_getElem? (i := 19) (by decide +kernel), List.mem_of_getElem? (i := 320) (by decide +kernel), List.mem_of_getElem? (i := 321) (by decide +kernel)⟩
theorem lw_p7 : lw_okq (⟨"ReadAhead$House", "hit", "(II)V"⟩, 11) := ⟨⟨by decide +kernel, by decide +kernel⟩, List.mem_of_getElem? (i := 19) (by decide +kernel), List.mem_of_getElem? (i := 333) (by decide +kernel), List.mem_of_getElem? (i := 334) (by decide +kernel)⟩
theorem lw_p8 : lw_okq (⟨"ReadAhead$House", "wish", "(II)V"⟩, 11) := ⟨⟨by decide +kernel, by decide +kernel⟩, List.mem_of_getElem? (i := 19) (by decide +kernel), List.mem_of_getElem? (i := 348) (by decide +kernel), List.mem_of_getElem? (i := 349) (by decide +kernel)⟩
theorem lw_p9 : lw_okq (⟨"ReadAhead$House", "wishBySteps", "(IIII)V"⟩, 11) := ⟨⟨by decide +kernel, by decide +kernel⟩, List.mem_of_getElem? (i := 19) (by decide +kernel), List.mem_of_getElem? (i := 352) (by decide +kernel), List.mem_of_getElem? (i := 353) (by decide +kernel)⟩
theorem lw_p10 : lw_okq (⟨"ReadAhead$House", "wishOne", "(II)V"⟩, 11) := ⟨⟨by decide +kernel, by decide +kernel⟩, List.mem_of_getElem? (i := 19) (by decide +kernel), List.mem_of_getElem? (i := 356) (by decide +kernel), List.mem_of_getElem? (i := 357) (by decide +kernel)⟩
theorem lw_p11 : lw_okq (⟨"ReadAhead$House", "wishWhatFollowed", "(II)V"⟩, 11) := ⟨⟨by decide +kernel, by decide +kernel⟩, List.mem_of_getElem? (i := 19) (by decide +kernel), List.mem_of_getElem? (i := 369) (by decide +kernel), List.mem_of_getElem? (i := 370) (by decide +kernel)⟩
theorem lw_p12 : lw_okq (⟨"ReadAhead$Foresight", "number", "(LReadAhead$House;I)Z"⟩, 9) := ⟨⟨by decide +kernel, by decide +kernel⟩, List.mem_of_getElem? (i := 179) (by decide +kernel), List.mem_of_getElem? (i := 414) (by decide +kernel), List.mem_of_getElem? (i := 415) (by decide +kernel)⟩
theorem lw_p13 : lw_okq (⟨"ReadAhead$Foresight", "passAsk", "(II)V"⟩, 9) := ⟨⟨by decide +kernel, by decide +kernel⟩, List.mem_of_getElem? (i := 179) (by decide +kernel), List.mem_of_getElem? (i := 431) (by decide +kernel), List.mem_of_getElem? (i := 432) (by decide +kernel)⟩
theorem lw_p14 : lw_okq (⟨"ReadAhead$Foresight", "serveUpTo", "(I)V"⟩, 9) := ⟨⟨by decide +kernel, by decide +kernel⟩, List.mem_of_getElem? (i := 179) (by decide +kernel), List.mem_of_getElem? (i := 438) (by decide +kernel), List.mem_of_getElem? (i := 439) (by decide +kernel)⟩
theorem lw_p15 : lw_okq (⟨"ReadAhead$Foresight", "serveOneOrNone", "()V"⟩, 9) := ⟨⟨by decide +kernel, by decide +kernel⟩, List.mem_of_getElem? (i := 179) (by decide +kernel), List.mem_of_getElem? (i := 442) (by decide +kernel), List.mem_of_getElem? (i := 443) (by decide +kernel)⟩
def lw_privs_1 : List (MethodName × Nat) := [(⟨"ReadAhead", "toldOfAll", "(I)I"⟩, 4), (⟨"ReadAhead", "toldOfOne", "(II)I"⟩, 4), (⟨"ReadAhead$House", "demand", "(II)V"⟩, 11), (⟨"ReadAhead$House", "serve", "(III)I"⟩, 11), (⟨"ReadAhead$House", "leaver", "(I)I"⟩, 11), (⟨"ReadAhead$House", "turnAway", "(II)V"⟩, 11), (⟨"ReadAhead$House", "letGo", "(I)V"⟩, 11), (⟨"ReadAhead$House", "hit", "(II)V"⟩, 11), (⟨"ReadAhead$House", "wish", "(II)V"⟩, 11), (⟨"ReadAhead$House", "wishBySteps", "(IIII)V"⟩, 11), (⟨"ReadAhead$House", "wishOne", "(II)V"⟩, 11), (⟨"ReadAhead$House", "wishWhatFollowed", "(II)V"⟩, 11), (⟨"ReadAhead$Foresight", "number", "(LReadAhead$House;I)Z"⟩, 9), (⟨"ReadAhead$Foresight", "passAsk", "(II)V"⟩, 9), (⟨"ReadAhead$Foresight", "serveUpTo", "(I)V"⟩, 9), (⟨"ReadAhead$Foresight", "serveOneOrNone", "()V"⟩, 9)]
theorem lw_r1 : ∀ q ∈ lw_privs_1, lw_okq q := List.forall_mem_cons.mpr ⟨lw_p0, List.forall_mem_cons.mpr ⟨lw_p1, List.forall_mem_cons.mpr ⟨lw_p2, List.forall_mem_cons.mpr ⟨lw_p3, List.forall_mem_cons.mpr ⟨lw_p4, List.forall_mem_cons.mpr ⟨lw_p5, List.forall_mem_cons.mpr ⟨lw_p6, List.forall_mem_cons.mpr ⟨lw_p7, List.forall_mem_cons.mpr ⟨lw_p8, List.forall_mem_cons.mpr ⟨lw_p9, List.forall_mem_cons.mpr ⟨lw_p10, List.forall_mem_cons.mpr ⟨lw_p11, List.forall_mem_cons.mpr ⟨lw_p12, List.forall_mem_cons.mpr ⟨lw_p13, List.forall_mem_cons.mpr ⟨lw_p14, List.forall_mem_cons.mpr ⟨lw_p15, fun _ h => absurd h List.not_mem_nil⟩⟩⟩⟩⟩⟩⟩⟩⟩⟩⟩⟩⟩⟩⟩⟩
theorem lw_p16 : lw_okq (⟨"ReadAhead$Foresight", "passTick", "(I)V"⟩, 9) := ⟨⟨by decide +kernel, by decide +kernel⟩, List.mem_of_getElem? (i := 179) (by decide +kernel), List.mem_of_getElem? (i := 446) (by decide +kernel), List.mem_of_getElem? (i := 447) (by decide +kernel)⟩
theorem lw_p17 : lw_okq (⟨"ReadAhead$Foresight", "dropDearer", "(I)V"⟩, 9) := ⟨⟨by decide +kernel, by decide +kernel⟩, List.mem_of_getElem? (i := 179) (by decide +kernel), List.mem_of_getElem? (i := 450) (by decide +kernel), List.mem_of_getElem? (i := 451) (by decide +kernel)⟩
theorem lw_p18 : lw_okq (⟨"ReadAhead$Foresight", "cheapest", "(I)I"⟩, 9) := ⟨⟨by decide +kernel, by decide +kernel⟩, List.mem_of_getElem? (i := 179) (by decide +kernel), List.mem_of_getElem? (i := 454) (by decide +kernel), List.mem_of_getElem? (i := 455) (by decide +kernel)⟩
theorem lw_p19 : lw_okq (⟨"ReadAheadModel", "begin", "(III)V"⟩, 39) := ⟨⟨by decide +kernel, by decide +kernel⟩, List.mem_of_getElem? (i := 499) (by decide +kernel), List.mem_of_getElem? (i := 505) (by decide +kernel), List.mem_of_getElem? (i := 506) (by decide +kernel)⟩
theorem lw_p20 : lw_okq (⟨"ReadAheadModel", "sum", "(I)I"⟩, 39) := ⟨⟨by decide +kernel, by decide +kernel⟩, List.mem_of_getElem? (i := 499) (by decide +kernel), List.mem_of_getElem? (i := 637) (by decide +kernel), List.mem_of_getElem? (i := 638) (by decide +kernel)⟩
theorem lw_p21 : lw_okq (⟨"ReadAheadModel", "placeOf", "(I)I"⟩, 39) := ⟨⟨by decide +kernel, by decide +kernel⟩, List.mem_of_getElem? (i := 499) (by decide +kernel), List.mem_of_getElem? (i := 666) (by decide +kernel), List.mem_of_getElem? (i := 667) (by decide +kernel)⟩
theorem lw_p22 : lw_okq (⟨"ReadAheadModel", "hit", "(II)V"⟩, 39) := ⟨⟨by decide +kernel, by decide +kernel⟩, List.mem_of_getElem? (i := 499) (by decide +kernel), List.mem_of_getElem? (i := 670) (by decide +kernel), List.mem_of_getElem? (i := 671) (by decide +kernel)⟩
theorem lw_p23 : lw_okq (⟨"ReadAheadModel", "drop", "(I)V"⟩, 39) := ⟨⟨by decide +kernel, by decide +kernel⟩, List.mem_of_getElem? (i := 499) (by decide +kernel), List.mem_of_getElem? (i := 674) (by decide +kernel), List.mem_of_getElem? (i := 675) (by decide +kernel)⟩
theorem lw_p24 : lw_okq (⟨"ReadAheadModel", "waitOf", "(I)I"⟩, 39) := ⟨⟨by decide +kernel, by decide +kernel⟩, List.mem_of_getElem? (i := 499) (by decide +kernel), List.mem_of_getElem? (i := 678) (by decide +kernel), List.mem_of_getElem? (i := 679) (by decide +kernel)⟩
theorem lw_p25 : lw_okq (⟨"ReadAheadModel", "unwait", "(I)V"⟩, 39) := ⟨⟨by decide +kernel, by decide +kernel⟩, List.mem_of_getElem? (i := 499) (by decide +kernel), List.mem_of_getElem? (i := 682) (by decide +kernel), List.mem_of_getElem? (i := 683) (by decide +kernel)⟩
theorem lw_p26 : lw_okq (⟨"ReadAheadModel", "tick", "()V"⟩, 39) := ⟨⟨by decide +kernel, by decide +kernel⟩, List.mem_of_getElem? (i := 499) (by decide +kernel), List.mem_of_getElem? (i := 686) (by decide +kernel), List.mem_of_getElem? (i := 687) (by decide +kernel)⟩
theorem lw_p27 : lw_okq (⟨"ReadAheadModel", "serve", "(IIZ)V"⟩, 39) := ⟨⟨by decide +kernel, by decide +kernel⟩, List.mem_of_getElem? (i := 499) (by decide +kernel), List.mem_of_getElem? (i := 690) (by decide +kernel), List.mem_of_getElem? (i := 691) (by decide +kernel)⟩
theorem lw_p28 : lw_okq (⟨"ReadAheadModel", "makesRoom", "(I)Z"⟩, 39) := ⟨⟨by decide +kernel, by decide +kernel⟩, List.mem_of_getElem? (i := 499) (by decide +kernel), List.mem_of_getElem? (i := 694) (by decide +kernel), List.mem_of_getElem? (i := 695) (by decide +kernel)⟩
theorem lw_p29 : lw_okq (⟨"ReadAheadModel", "owned", "(I)I"⟩, 39) := ⟨⟨by decide +kernel, by decide +kernel⟩, List.mem_of_getElem? (i := 499) (by decide +kernel), List.mem_of_getElem? (i := 698) (by decide +kernel), List.mem_of_getElem? (i := 699) (by decide +kernel)⟩
theorem lw_p30 : lw_okq (⟨"ReadAheadModel", "isLeft", "(I)Z"⟩, 39) := ⟨⟨by decide +kernel, by decide +kernel⟩, List.mem_of_getElem? (i := 499) (by decide +kernel), List.mem_of_getElem? (i := 702) (by decide +kernel), List.mem_of_getElem? (i := 703) (by decide +kernel)⟩
theorem lw_p31 : lw_okq (⟨"ReadAheadModel", "waste", "(I)V"⟩, 39) := ⟨⟨by decide +kernel, by decide +kernel⟩, List.mem_of_getElem? (i := 499) (by decide +kernel), List.mem_of_getElem? (i := 706) (by decide +kernel), List.mem_of_getElem? (i := 707) (by decide +kernel)⟩
def lw_privs_2 : List (MethodName × Nat) := [(⟨"ReadAhead$Foresight", "passTick", "(I)V"⟩, 9), (⟨"ReadAhead$Foresight", "dropDearer", "(I)V"⟩, 9), (⟨"ReadAhead$Foresight", "cheapest", "(I)I"⟩, 9), (⟨"ReadAheadModel", "begin", "(III)V"⟩, 39), (⟨"ReadAheadModel", "sum", "(I)I"⟩, 39), (⟨"ReadAheadModel", "placeOf", "(I)I"⟩, 39), (⟨"ReadAheadModel", "hit", "(II)V"⟩, 39), (⟨"ReadAheadModel", "drop", "(I)V"⟩, 39), (⟨"ReadAheadModel", "waitOf", "(I)I"⟩, 39), (⟨"ReadAheadModel", "unwait", "(I)V"⟩, 39), (⟨"ReadAheadModel", "tick", "()V"⟩, 39), (⟨"ReadAheadModel", "serve", "(IIZ)V"⟩, 39), (⟨"ReadAheadModel", "makesRoom", "(I)Z"⟩, 39), (⟨"ReadAheadModel", "owned", "(I)I"⟩, 39), (⟨"ReadAheadModel", "isLeft", "(I)Z"⟩, 39), (⟨"ReadAheadModel", "waste", "(I)V"⟩, 39)]
theorem lw_r2 : ∀ q ∈ lw_privs_2, lw_okq q := List.forall_mem_cons.mpr ⟨lw_p16, List.forall_mem_cons.mpr ⟨lw_p17, List.forall_mem_cons.mpr ⟨lw_p18, List.forall_mem_cons.mpr ⟨lw_p19, List.forall_mem_cons.mpr ⟨lw_p20, List.forall_mem_cons.mpr ⟨lw_p21, List.forall_mem_cons.mpr ⟨lw_p22, List.forall_mem_cons.mpr ⟨lw_p23, List.forall_mem_cons.mpr ⟨lw_p24, List.forall_mem_cons.mpr ⟨lw_p25, List.forall_mem_cons.mpr ⟨lw_p26, List.forall_mem_cons.mpr ⟨lw_p27, List.forall_mem_cons.mpr ⟨lw_p28, List.forall_mem_cons.mpr ⟨lw_p29, List.forall_mem_cons.mpr ⟨lw_p30, List.forall_mem_cons.mpr ⟨lw_p31, fun _ h => absurd h List.not_mem_nil⟩⟩⟩⟩⟩⟩⟩⟩⟩⟩⟩⟩⟩⟩⟩⟩
theorem lw_p32 : lw_okq (⟨"ReadAheadModel", "nearest", "()I"⟩, 39) := ⟨⟨by decide +kernel, by decide +kernel⟩, List.mem_of_getElem? (i := 499) (by decide +kernel), List.mem_of_getElem? (i := 710) (by decide +kernel), List.mem_of_getElem? (i := 711) (by decide +kernel)⟩
theorem lw_p33 : lw_okq (⟨"ReadAheadModel", "wishAll", "(IIIZ)V"⟩, 39) := ⟨⟨by decide +kernel, by decide +kernel⟩, List.mem_of_getElem? (i := 499) (by decide +kernel), List.mem_of_getElem? (i := 714) (by decide +kernel), List.mem_of_getElem? (i := 715) (by decide +kernel)⟩
theorem lw_p34 : lw_okq (⟨"ReadAheadModel", "reachOf", "(I)I"⟩, 39) := ⟨⟨by decide +kernel, by decide +kernel⟩, List.mem_of_getElem? (i := 499) (by decide +kernel), List.mem_of_getElem? (i := 718) (by decide +kernel), List.mem_of_getElem? (i := 719) (by decide +kernel)⟩
theorem lw_p35 : lw_okq (⟨"ReadAheadModel", "wish", "(II)V"⟩, 39) := ⟨⟨by decide +kernel, by decide +kernel⟩, List.mem_of_getElem? (i := 499) (by decide +kernel), List.mem_of_getElem? (i := 722) (by decide +kernel), List.mem_of_getElem? (i := 723) (by decide +kernel)⟩
theorem lw_p36 : lw_okq (⟨"ReadAheadModel", "toldOf", "(II)I"⟩, 39) := ⟨⟨by decide +kernel, by decide +kernel⟩, List.mem_of_getElem? (i := 499) (by decide +kernel), List.mem_of_getElem? (i := 736) (by decide +kernel), List.mem_of_getElem? (i := 737) (by decide +kernel)⟩
theorem lw_p37 : lw_okq (⟨"ReadAheadModel", "waitsOf", "(I)I"⟩, 39) := ⟨⟨by decide +kernel, by decide +kernel⟩, List.mem_of_getElem? (i := 499) (by decide +kernel), List.mem_of_getElem? (i := 740) (by decide +kernel), List.mem_of_getElem? (i := 741) (by decide +kernel)⟩
theorem lw_p38 : lw_okq (⟨"ReadAheadModel", "indexOf", "(I)I"⟩, 39) := ⟨⟨by decide +kernel, by decide +kernel⟩, List.mem_of_getElem? (i := 499) (by decide +kernel), List.mem_of_getElem? (i := 769) (by decide +kernel), List.mem_of_getElem? (i := 770) (by decide +kernel)⟩
theorem lw_p39 : lw_okq (⟨"ReadAheadModel", "findSets", "(IIZ)V"⟩, 39) := ⟨⟨by decide +kernel, by decide +kernel⟩, List.mem_of_getElem? (i := 499) (by decide +kernel), List.mem_of_getElem? (i := 773) (by decide +kernel), List.mem_of_getElem? (i := 774) (by decide +kernel)⟩
theorem lw_p40 : lw_okq (⟨"ReadAheadModel", "addSets", "(I)V"⟩, 39) := ⟨⟨by decide +kernel, by decide +kernel⟩, List.mem_of_getElem? (i := 499) (by decide +kernel), List.mem_of_getElem? (i := 777) (by decide +kernel), List.mem_of_getElem? (i := 778) (by decide +kernel)⟩
theorem lw_p41 : lw_okq (⟨"ReadAheadModel", "askFor", "(I)V"⟩, 39) := ⟨⟨by decide +kernel, by decide +kernel⟩, List.mem_of_getElem? (i := 499) (by decide +kernel), List.mem_of_getElem? (i := 785) (by decide +kernel), List.mem_of_getElem? (i := 786) (by decide +kernel)⟩
theorem lw_p42 : lw_okq (⟨"ReadAheadModel", "lay", "(I)V"⟩, 39) := ⟨⟨by decide +kernel, by decide +kernel⟩, List.mem_of_getElem? (i := 499) (by decide +kernel), List.mem_of_getElem? (i := 793) (by decide +kernel), List.mem_of_getElem? (i := 794) (by decide +kernel)⟩
theorem lw_p43 : lw_okq (⟨"ReadAheadModel", "take", "()I"⟩, 39) := ⟨⟨by decide +kernel, by decide +kernel⟩, List.mem_of_getElem? (i := 499) (by decide +kernel), List.mem_of_getElem? (i := 801) (by decide +kernel), List.mem_of_getElem? (i := 802) (by decide +kernel)⟩
theorem lw_p44 : lw_okq (⟨"ReadAheadModel", "digested", "(II)I"⟩, 39) := ⟨⟨by decide +kernel, by decide +kernel⟩, List.mem_of_getElem? (i := 499) (by decide +kernel), List.mem_of_getElem? (i := 809) (by decide +kernel), List.mem_of_getElem? (i := 810) (by decide +kernel)⟩
def lw_privs_3 : List (MethodName × Nat) := [(⟨"ReadAheadModel", "nearest", "()I"⟩, 39), (⟨"ReadAheadModel", "wishAll", "(IIIZ)V"⟩, 39), (⟨"ReadAheadModel", "reachOf", "(I)I"⟩, 39), (⟨"ReadAheadModel", "wish", "(II)V"⟩, 39), (⟨"ReadAheadModel", "toldOf", "(II)I"⟩, 39), (⟨"ReadAheadModel", "waitsOf", "(I)I"⟩, 39), (⟨"ReadAheadModel", "indexOf", "(I)I"⟩, 39), (⟨"ReadAheadModel", "findSets", "(IIZ)V"⟩, 39), (⟨"ReadAheadModel", "addSets", "(I)V"⟩, 39), (⟨"ReadAheadModel", "askFor", "(I)V"⟩, 39), (⟨"ReadAheadModel", "lay", "(I)V"⟩, 39), (⟨"ReadAheadModel", "take", "()I"⟩, 39), (⟨"ReadAheadModel", "digested", "(II)I"⟩, 39)]
theorem lw_r3 : ∀ q ∈ lw_privs_3, lw_okq q := List.forall_mem_cons.mpr ⟨lw_p32, List.forall_mem_cons.mpr ⟨lw_p33, List.forall_mem_cons.mpr ⟨lw_p34, List.forall_mem_cons.mpr ⟨lw_p35, List.forall_mem_cons.mpr ⟨lw_p36, List.forall_mem_cons.mpr ⟨lw_p37, List.forall_mem_cons.mpr ⟨lw_p38, List.forall_mem_cons.mpr ⟨lw_p39, List.forall_mem_cons.mpr ⟨lw_p40, List.forall_mem_cons.mpr ⟨lw_p41, List.forall_mem_cons.mpr ⟨lw_p42, List.forall_mem_cons.mpr ⟨lw_p43, List.forall_mem_cons.mpr ⟨lw_p44, fun _ h => absurd h List.not_mem_nil⟩⟩⟩⟩⟩⟩⟩⟩⟩⟩⟩⟩⟩
def lw_privs : List (MethodName × Nat) := lw_privs_1 ++ (lw_privs_2 ++ (lw_privs_3))
def lw_tbl : List Cond := k2_sels lw_privs ++ tables_1
theorem lw_privs_ok : ∀ q ∈ lw_privs, lw_okq q := by
  show ∀ q ∈ lw_privs_1 ++ (lw_privs_2 ++ (lw_privs_3)), lw_okq q
  exact List.forall_mem_append.mpr ⟨lw_r1, List.forall_mem_append.mpr ⟨lw_r2, lw_r3⟩⟩

def RX0 : String := "ReadAhead$Asker"
def TX0 : u_T := fun k => match k with
  | 0 => ("ReadAhead$Asker", "counts", "[I", true)
  | 1 => ("ReadAhead$Asker", "behind", "[I", true)
  | 2 => ("ReadAhead$Asker", "kind", "I", false)
  | 3 => ("ReadAhead$Asker", "reach", "I", false)
  | 4 => ("ReadAhead$Asker", "share", "I", false)
  | 5 => ("ReadAhead$Asker", "from", "I", false)
  | 6 => ("ReadAhead$Asker", "to", "I", false)
  | 7 => ("ReadAhead$Asker", "last", "I", false)
  | 8 => ("ReadAhead$Asker", "step", "I", false)
  | _ => ("ReadAhead$Asker", "stepBefore", "I", false)
def tyX0 : Nat → FieldType := fun k => match k with
  | 0 => .array .int
  | 1 => .array .int
  | 2 => .int
  | 3 => .int
  | 4 => .int
  | 5 => .int
  | 6 => .int
  | 7 => .int
  | 8 => .int
  | _ => .int
abbrev wsX00 : List Cond := u_ws RX0 TX0 10
theorem nmX0 : ∀ a, a < 10 → ∀ b, b < 10 → a ≠ b → (TX0 a).2.1 ≠ (TX0 b).2.1 := by decide +kernel
theorem tyX0_ok : ∀ k, k < 10 → parseFieldDescriptor (TX0 k).2.2.1 = some (tyX0 k) := by decide +kernel
abbrev cX0_init : ByteArray := prog_2_method_1_code
def yX0_init : MethodName := ⟨RX0, "<init>", "()V"⟩
abbrev cX0_begin : ByteArray := prog_2_method_2_code
def yX0_begin : MethodName := ⟨RX0, "begin", "()V"⟩
abbrev cX0_copyFrom : ByteArray := prog_2_method_3_code
def yX0_copyFrom : MethodName := ⟨RX0, "copyFrom", "(LReadAhead$Asker;)V"⟩
abbrev cX0_become : ByteArray := prog_2_method_4_code
def yX0_become : MethodName := ⟨RX0, "become", "(II)V"⟩
abbrev cX0_spans : ByteArray := prog_2_method_5_code
def yX0_spans : MethodName := ⟨RX0, "spans", "(I)Z"⟩
abbrev cX0_hasLeft : ByteArray := prog_2_method_6_code
def yX0_hasLeft : MethodName := ⟨RX0, "hasLeft", "(I)Z"⟩
abbrev cX0_countWasted : ByteArray := prog_2_method_7_code
def yX0_countWasted : MethodName := ⟨RX0, "countWasted", "()V"⟩
abbrev cX0_countSaved : ByteArray := prog_2_method_8_code
def yX0_countSaved : MethodName := ⟨RX0, "countSaved", "()V"⟩
abbrev cX0_learn : ByteArray := prog_2_method_9_code
def yX0_learn : MethodName := ⟨RX0, "learn", "(I)V"⟩
abbrev cX0_isSteady : ByteArray := prog_2_method_10_code
def yX0_isSteady : MethodName := ⟨RX0, "isSteady", "()Z"⟩
def RX1 : String := "ReadAhead$Foresight"
def TX1 : u_T := fun k => match k with
  | 0 => ("ReadAhead$Foresight", "unlike", "[I", true)
  | 1 => ("ReadAhead$Foresight", "wanted", "[I", true)
  | 2 => ("ReadAhead$Foresight", "lows", "[J", true)
  | 3 => ("ReadAhead$Foresight", "highs", "[J", true)
  | 4 => ("ReadAhead$Foresight", "low", "J", false)
  | 5 => ("ReadAhead$Foresight", "high", "J", false)
  | 6 => ("ReadAhead$Foresight", "fullLow", "J", false)
  | 7 => ("ReadAhead$Foresight", "fullHigh", "J", false)
  | _ => ("ReadAhead$Foresight", "speed", "I", false)
def tyX1 : Nat → FieldType := fun k => match k with
  | 0 => .array .int
  | 1 => .array .int
  | 2 => .array .long
  | 3 => .array .long
  | 4 => .long
  | 5 => .long
  | 6 => .long
  | 7 => .long
  | _ => .int
abbrev wsX10 : List Cond := u_ws RX1 TX1 9
theorem nmX1 : ∀ a, a < 9 → ∀ b, b < 9 → a ≠ b → (TX1 a).2.1 ≠ (TX1 b).2.1 := by decide +kernel
theorem tyX1_ok : ∀ k, k < 9 → parseFieldDescriptor (TX1 k).2.2.1 = some (tyX1 k) := by decide +kernel
abbrev cX1_init : ByteArray := prog_3_method_1_code
def yX1_init : MethodName := ⟨RX1, "<init>", "()V"⟩
abbrev cX1_leastStalls : ByteArray := prog_3_method_2_code
def yX1_leastStalls : MethodName := ⟨RX1, "leastStalls", "(LReadAhead$House;I)I"⟩
abbrev cX1_number : ByteArray := prog_3_method_3_code
def yX1_number : MethodName := ⟨RX1, "number", "(LReadAhead$House;I)Z"⟩
abbrev cX1_sized : ByteArray := prog_3_method_4_code
def yX1_sized : MethodName := ⟨RX1, "sized", "(I)J"⟩
abbrev cX1_passAsk : ByteArray := prog_3_method_5_code
def yX1_passAsk : MethodName := ⟨RX1, "passAsk", "(II)V"⟩
abbrev cX1_passTick : ByteArray := prog_3_method_6_code
def yX1_passTick : MethodName := ⟨RX1, "passTick", "(I)V"⟩
abbrev cX1_dropDearer : ByteArray := prog_3_method_7_code
def yX1_dropDearer : MethodName := ⟨RX1, "dropDearer", "(I)V"⟩
abbrev cX1_cheapest : ByteArray := prog_3_method_8_code
def yX1_cheapest : MethodName := ⟨RX1, "cheapest", "(I)I"⟩
abbrev cX1_serveUpTo : ByteArray := prog_3_method_9_code
def yX1_serveUpTo : MethodName := ⟨RX1, "serveUpTo", "(I)V"⟩
abbrev cX1_serveOneOrNone : ByteArray := prog_3_method_10_code
def yX1_serveOneOrNone : MethodName := ⟨RX1, "serveOneOrNone", "()V"⟩
def RX2 : String := "ReadAhead$Held"
def TX2 : u_T := fun k => match k with
  | 0 => ("ReadAhead$Held", "block", "[I", true)
  | 1 => ("ReadAhead$Held", "asker", "[I", true)
  | 2 => ("ReadAhead$Held", "fresh", "[I", true)
  | 3 => ("ReadAhead$Held", "heldFor", "[I", true)
  | _ => ("ReadAhead$Held", "count", "I", false)
def tyX2 : Nat → FieldType := fun k => match k with
  | 0 => .array .int
  | 1 => .array .int
  | 2 => .array .int
  | 3 => .array .int
  | _ => .int
abbrev wsX20 : List Cond := u_ws RX2 TX2 5
theorem nmX2 : ∀ a, a < 5 → ∀ b, b < 5 → a ≠ b → (TX2 a).2.1 ≠ (TX2 b).2.1 := by decide +kernel
theorem tyX2_ok : ∀ k, k < 5 → parseFieldDescriptor (TX2 k).2.2.1 = some (tyX2 k) := by decide +kernel
abbrev cX2_init : ByteArray := prog_4_method_1_code
def yX2_init : MethodName := ⟨RX2, "<init>", "(I)V"⟩
abbrev cX2_empty : ByteArray := prog_4_method_2_code
def yX2_empty : MethodName := ⟨RX2, "empty", "()V"⟩
abbrev cX2_copyFrom : ByteArray := prog_4_method_3_code
def yX2_copyFrom : MethodName := ⟨RX2, "copyFrom", "(LReadAhead$Held;)V"⟩
abbrev cX2_hasPlace : ByteArray := prog_4_method_4_code
def yX2_hasPlace : MethodName := ⟨RX2, "hasPlace", "()Z"⟩
abbrev cX2_find : ByteArray := prog_4_method_5_code
def yX2_find : MethodName := ⟨RX2, "find", "(I)I"⟩
abbrev cX2_add : ByteArray := prog_4_method_6_code
def yX2_add : MethodName := ⟨RX2, "add", "(III)V"⟩
abbrev cX2_remove : ByteArray := prog_4_method_7_code
def yX2_remove : MethodName := ⟨RX2, "remove", "(I)V"⟩
abbrev cX2_nearest : ByteArray := prog_4_method_8_code
def yX2_nearest : MethodName := ⟨RX2, "nearest", "(I)I"⟩
def RX3 : String := "ReadAhead$House"
def TX3 : u_T := fun k => match k with
  | 0 => ("ReadAhead$House", "room", "LReadAhead$Held;", true)
  | 1 => ("ReadAhead$House", "line", "LReadAhead$Held;", true)
  | 2 => ("ReadAhead$House", "askers", "[LReadAhead$Asker;", true)
  | 3 => ("ReadAhead$House", "row", "[I", true)
  | 4 => ("ReadAhead$House", "space", "I", false)
  | 5 => ("ReadAhead$House", "speed", "I", false)
  | 6 => ("ReadAhead$House", "pace", "I", false)
  | 7 => ("ReadAhead$House", "arm", "I", false)
  | 8 => ("ReadAhead$House", "way", "I", false)
  | 9 => ("ReadAhead$House", "ticks", "I", false)
  | _ => ("ReadAhead$House", "asks", "I", false)
def tyX3 : Nat → FieldType := fun k => match k with
  | 0 => .object "ReadAhead$Held"
  | 1 => .object "ReadAhead$Held"
  | 2 => .array (.object "ReadAhead$Asker")
  | 3 => .array .int
  | 4 => .int
  | 5 => .int
  | 6 => .int
  | 7 => .int
  | 8 => .int
  | 9 => .int
  | _ => .int
abbrev wsX30 : List Cond := u_ws RX3 TX3 11
theorem nmX3 : ∀ a, a < 11 → ∀ b, b < 11 → a ≠ b → (TX3 a).2.1 ≠ (TX3 b).2.1 := by decide +kernel
theorem tyX3_ok : ∀ k, k < 11 → parseFieldDescriptor (TX3 k).2.2.1 = some (tyX3 k) := by decide +kernel
abbrev cX3_init : ByteArray := prog_5_method_1_code
def yX3_init : MethodName := ⟨RX3, "<init>", "()V"⟩
abbrev cX3_begin : ByteArray := prog_5_method_2_code
def yX3_begin : MethodName := ⟨RX3, "begin", "(III)V"⟩
abbrev cX3_copyFrom : ByteArray := prog_5_method_3_code
def yX3_copyFrom : MethodName := ⟨RX3, "copyFrom", "(LReadAhead$House;)V"⟩
abbrev cX3_answer : ByteArray := prog_5_method_4_code
def yX3_answer : MethodName := ⟨RX3, "answer", "(II)I"⟩
abbrev cX3_hit : ByteArray := prog_5_method_5_code
def yX3_hit : MethodName := ⟨RX3, "hit", "(II)V"⟩
abbrev cX3_demand : ByteArray := prog_5_method_6_code
def yX3_demand : MethodName := ⟨RX3, "demand", "(II)V"⟩
abbrev cX3_tick : ByteArray := prog_5_method_7_code
def yX3_tick : MethodName := ⟨RX3, "tick", "(II)I"⟩
abbrev cX3_serve : ByteArray := prog_5_method_8_code
def yX3_serve : MethodName := ⟨RX3, "serve", "(III)I"⟩
abbrev cX3_leaver : ByteArray := prog_5_method_9_code
def yX3_leaver : MethodName := ⟨RX3, "leaver", "(I)I"⟩
abbrev cX3_letGo : ByteArray := prog_5_method_10_code
def yX3_letGo : MethodName := ⟨RX3, "letGo", "(I)V"⟩
abbrev cX3_turnAway : ByteArray := prog_5_method_11_code
def yX3_turnAway : MethodName := ⟨RX3, "turnAway", "(II)V"⟩
abbrev cX3_wish : ByteArray := prog_5_method_12_code
def yX3_wish : MethodName := ⟨RX3, "wish", "(II)V"⟩
abbrev cX3_wishBySteps : ByteArray := prog_5_method_13_code
def yX3_wishBySteps : MethodName := ⟨RX3, "wishBySteps", "(IIII)V"⟩
abbrev cX3_wishWhatFollowed : ByteArray := prog_5_method_14_code
def yX3_wishWhatFollowed : MethodName := ⟨RX3, "wishWhatFollowed", "(II)V"⟩
abbrev cX3_wishOne : ByteArray := prog_5_method_15_code
def yX3_wishOne : MethodName := ⟨RX3, "wishOne", "(II)V"⟩
abbrev cX3_asked : ByteArray := prog_5_method_16_code
def yX3_asked : MethodName := ⟨RX3, "asked", "(I)I"⟩
abbrev cX3_placeInRow : ByteArray := prog_5_method_17_code
def yX3_placeInRow : MethodName := ⟨RX3, "placeInRow", "(I)I"⟩
def RX4 : String := "ReadAhead"
def TX4 : u_T := fun k => match k with
  | 0 => ("ReadAhead", "now", "LReadAhead$House;", true)
  | 1 => ("ReadAhead", "shelves", "[LReadAhead$House;", true)
  | 2 => ("ReadAhead", "filled", "[Z", true)
  | _ => ("ReadAhead", "best", "LReadAhead$Foresight;", true)
def tyX4 : Nat → FieldType := fun k => match k with
  | 0 => .object "ReadAhead$House"
  | 1 => .array (.object "ReadAhead$House")
  | 2 => .array .boolean
  | _ => .object "ReadAhead$Foresight"
abbrev wsX40 : List Cond := u_ws RX4 TX4 4
theorem nmX4 : ∀ a, a < 4 → ∀ b, b < 4 → a ≠ b → (TX4 a).2.1 ≠ (TX4 b).2.1 := by decide +kernel
theorem tyX4_ok : ∀ k, k < 4 → parseFieldDescriptor (TX4 k).2.2.1 = some (tyX4 k) := by decide +kernel
abbrev cX4_init : ByteArray := prog_1_method_1_code
def yX4_init : MethodName := ⟨RX4, "<init>", "()V"⟩
abbrev cX4_clear : ByteArray := prog_1_method_2_code
def yX4_clear : MethodName := ⟨RX4, "clear", "(III)I"⟩
abbrev cX4_share : ByteArray := prog_1_method_3_code
def yX4_share : MethodName := ⟨RX4, "share", "(II)I"⟩
abbrev cX4_kind : ByteArray := prog_1_method_4_code
def yX4_kind : MethodName := ⟨RX4, "kind", "(III)I"⟩
abbrev cX4_hint : ByteArray := prog_1_method_5_code
def yX4_hint : MethodName := ⟨RX4, "hint", "(III)I"⟩
abbrev cX4_ask : ByteArray := prog_1_method_6_code
def yX4_ask : MethodName := ⟨RX4, "ask", "(II)I"⟩
abbrev cX4_idle : ByteArray := prog_1_method_7_code
def yX4_idle : MethodName := ⟨RX4, "idle", "(I)I"⟩
abbrev cX4_told : ByteArray := prog_1_method_8_code
def yX4_told : MethodName := ⟨RX4, "told", "(II)I"⟩
abbrev cX4_reach : ByteArray := prog_1_method_9_code
def yX4_reach : MethodName := ⟨RX4, "reach", "(I)I"⟩
abbrev cX4_room : ByteArray := prog_1_method_10_code
def yX4_room : MethodName := ⟨RX4, "room", "(II)I"⟩
abbrev cX4_waiting : ByteArray := prog_1_method_11_code
def yX4_waiting : MethodName := ⟨RX4, "waiting", "(II)I"⟩
abbrev cX4_follows : ByteArray := prog_1_method_12_code
def yX4_follows : MethodName := ⟨RX4, "follows", "(II)I"⟩
abbrev cX4_house : ByteArray := prog_1_method_13_code
def yX4_house : MethodName := ⟨RX4, "house", "(I)I"⟩
abbrev cX4_foresight : ByteArray := prog_1_method_14_code
def yX4_foresight : MethodName := ⟨RX4, "foresight", "(I)I"⟩
abbrev cX4_keep : ByteArray := prog_1_method_15_code
def yX4_keep : MethodName := ⟨RX4, "keep", "(I)I"⟩
abbrev cX4_back : ByteArray := prog_1_method_16_code
def yX4_back : MethodName := ⟨RX4, "back", "(I)I"⟩
abbrev cX4_digest : ByteArray := prog_1_method_17_code
def yX4_digest : MethodName := ⟨RX4, "digest", "()I"⟩
abbrev cX4_mixed : ByteArray := prog_1_method_18_code
def yX4_mixed : MethodName := ⟨RX4, "mixed", "(II)I"⟩
abbrev cX4_mixedHeld : ByteArray := prog_1_method_19_code
def yX4_mixedHeld : MethodName := ⟨RX4, "mixedHeld", "(ILReadAhead$Held;Z)I"⟩
abbrev cX4_mixedAsker : ByteArray := prog_1_method_20_code
def yX4_mixedAsker : MethodName := ⟨RX4, "mixedAsker", "(ILReadAhead$Asker;)I"⟩
abbrev cX4_toldOfAll : ByteArray := prog_1_method_21_code
def yX4_toldOfAll : MethodName := ⟨RX4, "toldOfAll", "(I)I"⟩
abbrev cX4_toldOfOne : ByteArray := prog_1_method_22_code
def yX4_toldOfOne : MethodName := ⟨RX4, "toldOfOne", "(II)I"⟩
abbrev cX4_within : ByteArray := prog_1_method_23_code
def yX4_within : MethodName := ⟨RX4, "within", "(III)Z"⟩
abbrev cX4_isAsker : ByteArray := prog_1_method_24_code
def yX4_isAsker : MethodName := ⟨RX4, "isAsker", "(I)Z"⟩
abbrev cX4_isBlock : ByteArray := prog_1_method_25_code
def yX4_isBlock : MethodName := ⟨RX4, "isBlock", "(I)Z"⟩
abbrev cX4_isShelf : ByteArray := prog_1_method_26_code
def yX4_isShelf : MethodName := ⟨RX4, "isShelf", "(I)Z"⟩
def RX5 : String := "ReadAheadModel"
def TX5 : u_T := fun k => match k with
  | 0 => ("ReadAheadModel", "space", "I", false)
  | 1 => ("ReadAheadModel", "speed", "I", false)
  | 2 => ("ReadAheadModel", "pace", "I", false)
  | 3 => ("ReadAheadModel", "blocks", "[I", true)
  | 4 => ("ReadAheadModel", "owners", "[I", true)
  | 5 => ("ReadAheadModel", "fresh", "[Z", true)
  | 6 => ("ReadAheadModel", "many", "I", false)
  | 7 => ("ReadAheadModel", "waits", "[I", true)
  | 8 => ("ReadAheadModel", "waitFor", "[I", true)
  | 9 => ("ReadAheadModel", "waiting", "I", false)
  | 10 => ("ReadAheadModel", "arm", "I", false)
  | 11 => ("ReadAheadModel", "ticks", "I", false)
  | 12 => ("ReadAheadModel", "went", "I", false)
  | 13 => ("ReadAheadModel", "kinds", "[I", true)
  | 14 => ("ReadAheadModel", "reaches", "[I", true)
  | 15 => ("ReadAheadModel", "own", "[I", true)
  | 16 => ("ReadAheadModel", "shares", "[I", true)
  | 17 => ("ReadAheadModel", "spanFrom", "[I", true)
  | 18 => ("ReadAheadModel", "spanTo", "[I", true)
  | 19 => ("ReadAheadModel", "last", "[I", true)
  | 20 => ("ReadAheadModel", "lastStep", "[I", true)
  | 21 => ("ReadAheadModel", "followed", "[I", true)
  | 22 => ("ReadAheadModel", "counts", "[I", true)
  | 23 => ("ReadAheadModel", "row", "[I", true)
  | 24 => ("ReadAheadModel", "asked", "I", false)
  | 25 => ("ReadAheadModel", "demanded", "I", false)
  | 26 => ("ReadAheadModel", "demandedFor", "I", false)
  | 27 => ("ReadAheadModel", "came", "I", false)
  | 28 => ("ReadAheadModel", "unlike", "[I", true)
  | 29 => ("ReadAheadModel", "unlikeMany", "I", false)
  | 30 => ("ReadAheadModel", "byTick", "[Z", true)
  | 31 => ("ReadAheadModel", "byLess", "[Z", true)
  | 32 => ("ReadAheadModel", "by", "[Z", true)
  | 33 => ("ReadAheadModel", "more", "[Z", true)
  | 34 => ("ReadAheadModel", "before", "[I", true)
  | 35 => ("ReadAheadModel", "behind", "[I", true)
  | 36 => ("ReadAheadModel", "shelfSpace", "[I", true)
  | 37 => ("ReadAheadModel", "shelf", "[I", true)
  | _ => ("ReadAheadModel", "at", "I", false)
def tyX5 : Nat → FieldType := fun k => match k with
  | 0 => .int
  | 1 => .int
  | 2 => .int
  | 3 => .array .int
  | 4 => .array .int
  | 5 => .array .boolean
  | 6 => .int
  | 7 => .array .int
  | 8 => .array .int
  | 9 => .int
  | 10 => .int
  | 11 => .int
  | 12 => .int
  | 13 => .array .int
  | 14 => .array .int
  | 15 => .array .int
  | 16 => .array .int
  | 17 => .array .int
  | 18 => .array .int
  | 19 => .array .int
  | 20 => .array .int
  | 21 => .array .int
  | 22 => .array .int
  | 23 => .array .int
  | 24 => .int
  | 25 => .int
  | 26 => .int
  | 27 => .int
  | 28 => .array .int
  | 29 => .int
  | 30 => .array .boolean
  | 31 => .array .boolean
  | 32 => .array .boolean
  | 33 => .array .boolean
  | 34 => .array .int
  | 35 => .array .int
  | 36 => .array .int
  | 37 => .array .int
  | _ => .int
abbrev wsX50 : List Cond := u_ws RX5 TX5 39
theorem nmX5 : ∀ a, a < 39 → ∀ b, b < 39 → a ≠ b → (TX5 a).2.1 ≠ (TX5 b).2.1 := by decide +kernel
theorem tyX5_ok : ∀ k, k < 39 → parseFieldDescriptor (TX5 k).2.2.1 = some (tyX5 k) := by decide +kernel
abbrev cX5_init : ByteArray := prog_7_method_1_code
def yX5_init : MethodName := ⟨RX5, "<init>", "()V"⟩
abbrev cX5_in : ByteArray := prog_7_method_3_code
def yX5_in : MethodName := ⟨RX5, "in", "(JJJ)Z"⟩
abbrev cX5_isAsker : ByteArray := prog_7_method_4_code
def yX5_isAsker : MethodName := ⟨RX5, "isAsker", "(I)Z"⟩
abbrev cX5_isBlock : ByteArray := prog_7_method_5_code
def yX5_isBlock : MethodName := ⟨RX5, "isBlock", "(I)Z"⟩
abbrev cX5_begin : ByteArray := prog_7_method_6_code
def yX5_begin : MethodName := ⟨RX5, "begin", "(III)V"⟩
abbrev cX5_clear : ByteArray := prog_7_method_7_code
def yX5_clear : MethodName := ⟨RX5, "clear", "(III)I"⟩
abbrev cX5_sum : ByteArray := prog_7_method_8_code
def yX5_sum : MethodName := ⟨RX5, "sum", "(I)I"⟩
abbrev cX5_share : ByteArray := prog_7_method_9_code
def yX5_share : MethodName := ⟨RX5, "share", "(II)I"⟩
abbrev cX5_kind : ByteArray := prog_7_method_10_code
def yX5_kind : MethodName := ⟨RX5, "kind", "(III)I"⟩
abbrev cX5_hint : ByteArray := prog_7_method_11_code
def yX5_hint : MethodName := ⟨RX5, "hint", "(III)I"⟩
abbrev cX5_placeOf : ByteArray := prog_7_method_12_code
def yX5_placeOf : MethodName := ⟨RX5, "placeOf", "(I)I"⟩
abbrev cX5_waitOf : ByteArray := prog_7_method_13_code
def yX5_waitOf : MethodName := ⟨RX5, "waitOf", "(I)I"⟩
abbrev cX5_unwait : ByteArray := prog_7_method_14_code
def yX5_unwait : MethodName := ⟨RX5, "unwait", "(I)V"⟩
abbrev cX5_owned : ByteArray := prog_7_method_15_code
def yX5_owned : MethodName := ⟨RX5, "owned", "(I)I"⟩
abbrev cX5_isLeft : ByteArray := prog_7_method_16_code
def yX5_isLeft : MethodName := ⟨RX5, "isLeft", "(I)Z"⟩
abbrev cX5_waste : ByteArray := prog_7_method_17_code
def yX5_waste : MethodName := ⟨RX5, "waste", "(I)V"⟩
abbrev cX5_drop : ByteArray := prog_7_method_18_code
def yX5_drop : MethodName := ⟨RX5, "drop", "(I)V"⟩
abbrev cX5_makesRoom : ByteArray := prog_7_method_19_code
def yX5_makesRoom : MethodName := ⟨RX5, "makesRoom", "(I)Z"⟩
abbrev cX5_serve : ByteArray := prog_7_method_20_code
def yX5_serve : MethodName := ⟨RX5, "serve", "(IIZ)V"⟩
abbrev cX5_nearest : ByteArray := prog_7_method_21_code
def yX5_nearest : MethodName := ⟨RX5, "nearest", "()I"⟩
abbrev cX5_tick : ByteArray := prog_7_method_22_code
def yX5_tick : MethodName := ⟨RX5, "tick", "()V"⟩
abbrev cX5_wish : ByteArray := prog_7_method_23_code
def yX5_wish : MethodName := ⟨RX5, "wish", "(II)V"⟩
abbrev cX5_wishAll : ByteArray := prog_7_method_24_code
def yX5_wishAll : MethodName := ⟨RX5, "wishAll", "(IIIZ)V"⟩
abbrev cX5_hit : ByteArray := prog_7_method_25_code
def yX5_hit : MethodName := ⟨RX5, "hit", "(II)V"⟩
abbrev cX5_ask : ByteArray := prog_7_method_26_code
def yX5_ask : MethodName := ⟨RX5, "ask", "(II)I"⟩
abbrev cX5_idle : ByteArray := prog_7_method_27_code
def yX5_idle : MethodName := ⟨RX5, "idle", "(I)I"⟩
abbrev cX5_waitsOf : ByteArray := prog_7_method_28_code
def yX5_waitsOf : MethodName := ⟨RX5, "waitsOf", "(I)I"⟩
abbrev cX5_toldOf : ByteArray := prog_7_method_29_code
def yX5_toldOf : MethodName := ⟨RX5, "toldOf", "(II)I"⟩
abbrev cX5_told : ByteArray := prog_7_method_30_code
def yX5_told : MethodName := ⟨RX5, "told", "(II)I"⟩
abbrev cX5_reachOf : ByteArray := prog_7_method_31_code
def yX5_reachOf : MethodName := ⟨RX5, "reachOf", "(I)I"⟩
abbrev cX5_reach : ByteArray := prog_7_method_32_code
def yX5_reach : MethodName := ⟨RX5, "reach", "(I)I"⟩
abbrev cX5_room : ByteArray := prog_7_method_33_code
def yX5_room : MethodName := ⟨RX5, "room", "(II)I"⟩
abbrev cX5_waiting : ByteArray := prog_7_method_34_code
def yX5_waiting : MethodName := ⟨RX5, "waiting", "(II)I"⟩
abbrev cX5_follows : ByteArray := prog_7_method_35_code
def yX5_follows : MethodName := ⟨RX5, "follows", "(II)I"⟩
abbrev cX5_house : ByteArray := prog_7_method_36_code
def yX5_house : MethodName := ⟨RX5, "house", "(I)I"⟩
abbrev cX5_sizeOf : ByteArray := prog_7_method_37_code
def yX5_sizeOf : MethodName := ⟨RX5, "sizeOf", "(I)I"⟩
abbrev cX5_addSets : ByteArray := prog_7_method_38_code
def yX5_addSets : MethodName := ⟨RX5, "addSets", "(I)V"⟩
abbrev cX5_findSets : ByteArray := prog_7_method_39_code
def yX5_findSets : MethodName := ⟨RX5, "findSets", "(IIZ)V"⟩
abbrev cX5_askFor : ByteArray := prog_7_method_40_code
def yX5_askFor : MethodName := ⟨RX5, "askFor", "(I)V"⟩
abbrev cX5_indexOf : ByteArray := prog_7_method_41_code
def yX5_indexOf : MethodName := ⟨RX5, "indexOf", "(I)I"⟩
abbrev cX5_foresight : ByteArray := prog_7_method_42_code
def yX5_foresight : MethodName := ⟨RX5, "foresight", "(I)I"⟩
abbrev cX5_lay : ByteArray := prog_7_method_43_code
def yX5_lay : MethodName := ⟨RX5, "lay", "(I)V"⟩
abbrev cX5_keep : ByteArray := prog_7_method_44_code
def yX5_keep : MethodName := ⟨RX5, "keep", "(I)I"⟩
abbrev cX5_take : ByteArray := prog_7_method_45_code
def yX5_take : MethodName := ⟨RX5, "take", "()I"⟩
abbrev cX5_back : ByteArray := prog_7_method_46_code
def yX5_back : MethodName := ⟨RX5, "back", "(I)I"⟩
abbrev cX5_digested : ByteArray := prog_7_method_47_code
def yX5_digested : MethodName := ⟨RX5, "digested", "(II)I"⟩
abbrev cX5_digest : ByteArray := prog_7_method_48_code
def yX5_digest : MethodName := ⟨RX5, "digest", "()I"⟩
def RJ9 : String := "java/lang/Math"
def TJ9 : u_T := fun k => match k with
  | _ => ("", "", "", false)
def tyJ9 : Nat → FieldType := fun k => match k with
  | _ => .int
abbrev wsJ90 : List Cond := u_ws RJ9 TJ9 0
theorem nmJ9 : ∀ a, a < 0 → ∀ b, b < 0 → a ≠ b → (TJ9 a).2.1 ≠ (TJ9 b).2.1 := by decide +kernel
theorem tyJ9_ok : ∀ k, k < 0 → parseFieldDescriptor (TJ9 k).2.2.1 = some (tyJ9 k) := by decide +kernel
abbrev cJ9_floorMod_7cf53 : ByteArray := prog_8_method_50_code
def yJ9_floorMod_7cf53 : MethodName := ⟨RJ9, "floorMod", "(II)I"⟩
abbrev cJ9_abs_0f7a4 : ByteArray := prog_8_method_59_code
def yJ9_abs_0f7a4 : MethodName := ⟨RJ9, "abs", "(I)I"⟩
abbrev cJ9_min_7cf53 : ByteArray := prog_8_method_69_code
def yJ9_min_7cf53 : MethodName := ⟨RJ9, "min", "(II)I"⟩
def RJ10 : String := "java/lang/System"
def TJ10 : u_T := fun k => match k with
  | _ => ("", "", "", false)
def tyJ10 : Nat → FieldType := fun k => match k with
  | _ => .int
abbrev wsJ100 : List Cond := u_ws RJ10 TJ10 0
theorem nmJ10 : ∀ a, a < 0 → ∀ b, b < 0 → a ≠ b → (TJ10 a).2.1 ≠ (TJ10 b).2.1 := by decide +kernel
theorem tyJ10_ok : ∀ k, k < 0 → parseFieldDescriptor (TJ10 k).2.2.1 = some (tyJ10 k) := by decide +kernel
def RJ7 : String := "java/util/Arrays"
def TJ7 : u_T := fun k => match k with
  | _ => ("", "", "", false)
def tyJ7 : Nat → FieldType := fun k => match k with
  | _ => .int
abbrev wsJ70 : List Cond := u_ws RJ7 TJ7 0
theorem nmJ7 : ∀ a, a < 0 → ∀ b, b < 0 → a ≠ b → (TJ7 a).2.1 ≠ (TJ7 b).2.1 := by decide +kernel
theorem tyJ7_ok : ∀ k, k < 0 → parseFieldDescriptor (TJ7 k).2.2.1 = some (tyJ7 k) := by decide +kernel
abbrev cJ7_fill_d0a16 : ByteArray := prog_10_method_101_code
def yJ7_fill_d0a16 : MethodName := ⟨RJ7, "fill", "([JJ)V"⟩
abbrev cJ7_fill_53178 : ByteArray := prog_10_method_103_code
def yJ7_fill_53178 : MethodName := ⟨RJ7, "fill", "([II)V"⟩
def RL : String := "ReadAheadLaw"
abbrev cL_law : ByteArray := code
def yL_law : MethodName := ⟨RL, "law", "([I)Z"⟩
end
section
theorem dX0_init_0 : decode cX0_init 0 = .ok (.aload_n 0, 1) := by decide +kernel
theorem dX0_init_1 : decode cX0_init 1 = .ok (.invokespecial 3, 3) := by decide +kernel
theorem dX0_init_4 : decode cX0_init 4 = .ok (.aload_n 0, 1) := by decide +kernel
theorem dX0_init_5 : decode cX0_init 5 = .ok (.bipush 7, 2) := by decide +kernel
theorem dX0_init_7 : decode cX0_init 7 = .ok (.newarray .int, 2) := by decide +kernel
theorem dX0_init_9 : decode cX0_init 9 = .ok (.putfield 9, 3) := by decide +kernel
theorem dX0_init_12 : decode cX0_init 12 = .ok (.aload_n 0, 1) := by decide +kernel
theorem dX0_init_13 : decode cX0_init 13 = .ok (.bipush 64, 2) := by decide +kernel
theorem dX0_init_15 : decode cX0_init 15 = .ok (.newarray .int, 2) := by decide +kernel
theorem dX0_init_17 : decode cX0_init 17 = .ok (.putfield 15, 3) := by decide +kernel
theorem dX0_init_20 : decode cX0_init 20 = .ok (.return_, 1) := by decide +kernel
theorem dX0_begin_0 : decode cX0_begin 0 = .ok (.aload_n 0, 1) := by decide +kernel
theorem dX0_begin_1 : decode cX0_begin 1 = .ok (.getfield 9, 3) := by decide +kernel
theorem dX0_begin_4 : decode cX0_begin 4 = .ok (.iconst 0, 1) := by decide +kernel
theorem dX0_begin_5 : decode cX0_begin 5 = .ok (.invokestatic 18, 3) := by decide +kernel
theorem dX0_begin_8 : decode cX0_begin 8 = .ok (.aload_n 0, 1) := by decide +kernel
theorem dX0_begin_9 : decode cX0_begin 9 = .ok (.getfield 15, 3) := by decide +kernel
theorem dX0_begin_12 : decode cX0_begin 12 = .ok (.iconst (-1), 1) := by decide +kernel
theorem dX0_begin_13 : decode cX0_begin 13 = .ok (.invokestatic 18, 3) := by decide +kernel
theorem dX0_begin_16 : decode cX0_begin 16 = .ok (.aload_n 0, 1) := by decide +kernel
theorem dX0_begin_17 : decode cX0_begin 17 = .ok (.iconst 0, 1) := by decide +kernel
theorem dX0_begin_18 : decode cX0_begin 18 = .ok (.iconst 0, 1) := by decide +kernel
theorem dX0_begin_19 : decode cX0_begin 19 = .ok (.invokevirtual 24, 3) := by decide +kernel
theorem dX0_begin_22 : decode cX0_begin 22 = .ok (.aload_n 0, 1) := by decide +kernel
theorem dX0_begin_23 : decode cX0_begin 23 = .ok (.iconst 0, 1) := by decide +kernel
theorem dX0_begin_24 : decode cX0_begin 24 = .ok (.putfield 28, 3) := by decide +kernel
theorem dX0_begin_27 : decode cX0_begin 27 = .ok (.aload_n 0, 1) := by decide +kernel
theorem dX0_begin_28 : decode cX0_begin 28 = .ok (.iconst (-1), 1) := by decide +kernel
theorem dX0_begin_29 : decode cX0_begin 29 = .ok (.putfield 32, 3) := by decide +kernel
theorem dX0_begin_32 : decode cX0_begin 32 = .ok (.aload_n 0, 1) := by decide +kernel
theorem dX0_begin_33 : decode cX0_begin 33 = .ok (.iconst 0, 1) := by decide +kernel
theorem dX0_begin_34 : decode cX0_begin 34 = .ok (.putfield 35, 3) := by decide +kernel
theorem dX0_begin_37 : decode cX0_begin 37 = .ok (.aload_n 0, 1) := by decide +kernel
theorem dX0_begin_38 : decode cX0_begin 38 = .ok (.iconst 0, 1) := by decide +kernel
theorem dX0_begin_39 : decode cX0_begin 39 = .ok (.putfield 38, 3) := by decide +kernel
theorem dX0_begin_42 : decode cX0_begin 42 = .ok (.return_, 1) := by decide +kernel
theorem dX0_copyFrom_0 : decode cX0_copyFrom 0 = .ok (.aload_n 1, 1) := by decide +kernel
theorem dX0_copyFrom_1 : decode cX0_copyFrom 1 = .ok (.getfield 9, 3) := by decide +kernel
theorem dX0_copyFrom_4 : decode cX0_copyFrom 4 = .ok (.iconst 0, 1) := by decide +kernel
theorem dX0_copyFrom_5 : decode cX0_copyFrom 5 = .ok (.aload_n 0, 1) := by decide +kernel
theorem dX0_copyFrom_6 : decode cX0_copyFrom 6 = .ok (.getfield 9, 3) := by decide +kernel
theorem dX0_copyFrom_9 : decode cX0_copyFrom 9 = .ok (.iconst 0, 1) := by decide +kernel
theorem dX0_copyFrom_10 : decode cX0_copyFrom 10 = .ok (.bipush 7, 2) := by decide +kernel
theorem dX0_copyFrom_12 : decode cX0_copyFrom 12 = .ok (.invokestatic 41, 3) := by decide +kernel
theorem dX0_copyFrom_15 : decode cX0_copyFrom 15 = .ok (.aload_n 1, 1) := by decide +kernel
theorem dX0_copyFrom_16 : decode cX0_copyFrom 16 = .ok (.getfield 15, 3) := by decide +kernel
theorem dX0_copyFrom_19 : decode cX0_copyFrom 19 = .ok (.iconst 0, 1) := by decide +kernel
theorem dX0_copyFrom_20 : decode cX0_copyFrom 20 = .ok (.aload_n 0, 1) := by decide +kernel
theorem dX0_copyFrom_21 : decode cX0_copyFrom 21 = .ok (.getfield 15, 3) := by decide +kernel
theorem dX0_copyFrom_24 : decode cX0_copyFrom 24 = .ok (.iconst 0, 1) := by decide +kernel
theorem dX0_copyFrom_25 : decode cX0_copyFrom 25 = .ok (.bipush 64, 2) := by decide +kernel
theorem dX0_copyFrom_27 : decode cX0_copyFrom 27 = .ok (.invokestatic 41, 3) := by decide +kernel
theorem dX0_copyFrom_30 : decode cX0_copyFrom 30 = .ok (.aload_n 0, 1) := by decide +kernel
theorem dX0_copyFrom_31 : decode cX0_copyFrom 31 = .ok (.aload_n 1, 1) := by decide +kernel
theorem dX0_copyFrom_32 : decode cX0_copyFrom 32 = .ok (.getfield 47, 3) := by decide +kernel
theorem dX0_copyFrom_35 : decode cX0_copyFrom 35 = .ok (.putfield 47, 3) := by decide +kernel
theorem dX0_copyFrom_38 : decode cX0_copyFrom 38 = .ok (.aload_n 0, 1) := by decide +kernel
theorem dX0_copyFrom_39 : decode cX0_copyFrom 39 = .ok (.aload_n 1, 1) := by decide +kernel
theorem dX0_copyFrom_40 : decode cX0_copyFrom 40 = .ok (.getfield 50, 3) := by decide +kernel
theorem dX0_copyFrom_43 : decode cX0_copyFrom 43 = .ok (.putfield 50, 3) := by decide +kernel
theorem dX0_copyFrom_46 : decode cX0_copyFrom 46 = .ok (.aload_n 0, 1) := by decide +kernel
theorem dX0_copyFrom_47 : decode cX0_copyFrom 47 = .ok (.aload_n 1, 1) := by decide +kernel
theorem dX0_copyFrom_48 : decode cX0_copyFrom 48 = .ok (.getfield 28, 3) := by decide +kernel
theorem dX0_copyFrom_51 : decode cX0_copyFrom 51 = .ok (.putfield 28, 3) := by decide +kernel
theorem dX0_copyFrom_54 : decode cX0_copyFrom 54 = .ok (.aload_n 0, 1) := by decide +kernel
theorem dX0_copyFrom_55 : decode cX0_copyFrom 55 = .ok (.aload_n 1, 1) := by decide +kernel
theorem dX0_copyFrom_56 : decode cX0_copyFrom 56 = .ok (.getfield 53, 3) := by decide +kernel
theorem dX0_copyFrom_59 : decode cX0_copyFrom 59 = .ok (.putfield 53, 3) := by decide +kernel
theorem dX0_copyFrom_62 : decode cX0_copyFrom 62 = .ok (.aload_n 0, 1) := by decide +kernel
theorem dX0_copyFrom_63 : decode cX0_copyFrom 63 = .ok (.aload_n 1, 1) := by decide +kernel
theorem dX0_copyFrom_64 : decode cX0_copyFrom 64 = .ok (.getfield 56, 3) := by decide +kernel
theorem dX0_copyFrom_67 : decode cX0_copyFrom 67 = .ok (.putfield 56, 3) := by decide +kernel
theorem dX0_copyFrom_70 : decode cX0_copyFrom 70 = .ok (.aload_n 0, 1) := by decide +kernel
theorem dX0_copyFrom_71 : decode cX0_copyFrom 71 = .ok (.aload_n 1, 1) := by decide +kernel
theorem dX0_copyFrom_72 : decode cX0_copyFrom 72 = .ok (.getfield 32, 3) := by decide +kernel
theorem dX0_copyFrom_75 : decode cX0_copyFrom 75 = .ok (.putfield 32, 3) := by decide +kernel
theorem dX0_copyFrom_78 : decode cX0_copyFrom 78 = .ok (.aload_n 0, 1) := by decide +kernel
theorem dX0_copyFrom_79 : decode cX0_copyFrom 79 = .ok (.aload_n 1, 1) := by decide +kernel
theorem dX0_copyFrom_80 : decode cX0_copyFrom 80 = .ok (.getfield 35, 3) := by decide +kernel
theorem dX0_copyFrom_83 : decode cX0_copyFrom 83 = .ok (.putfield 35, 3) := by decide +kernel
theorem dX0_copyFrom_86 : decode cX0_copyFrom 86 = .ok (.aload_n 0, 1) := by decide +kernel
theorem dX0_copyFrom_87 : decode cX0_copyFrom 87 = .ok (.aload_n 1, 1) := by decide +kernel
theorem dX0_copyFrom_88 : decode cX0_copyFrom 88 = .ok (.getfield 38, 3) := by decide +kernel
theorem dX0_copyFrom_91 : decode cX0_copyFrom 91 = .ok (.putfield 38, 3) := by decide +kernel
theorem dX0_copyFrom_94 : decode cX0_copyFrom 94 = .ok (.return_, 1) := by decide +kernel
theorem dX0_become_0 : decode cX0_become 0 = .ok (.aload_n 0, 1) := by decide +kernel
theorem dX0_become_1 : decode cX0_become 1 = .ok (.iload_n 1, 1) := by decide +kernel
theorem dX0_become_2 : decode cX0_become 2 = .ok (.putfield 47, 3) := by decide +kernel
theorem dX0_become_5 : decode cX0_become 5 = .ok (.aload_n 0, 1) := by decide +kernel
theorem dX0_become_6 : decode cX0_become 6 = .ok (.iload_n 2, 1) := by decide +kernel
theorem dX0_become_7 : decode cX0_become 7 = .ok (.putfield 50, 3) := by decide +kernel
theorem dX0_become_10 : decode cX0_become 10 = .ok (.aload_n 0, 1) := by decide +kernel
theorem dX0_become_11 : decode cX0_become 11 = .ok (.iconst (-1), 1) := by decide +kernel
theorem dX0_become_12 : decode cX0_become 12 = .ok (.putfield 53, 3) := by decide +kernel
theorem dX0_become_15 : decode cX0_become 15 = .ok (.aload_n 0, 1) := by decide +kernel
theorem dX0_become_16 : decode cX0_become 16 = .ok (.iconst (-1), 1) := by decide +kernel
theorem dX0_become_17 : decode cX0_become 17 = .ok (.putfield 56, 3) := by decide +kernel
theorem dX0_become_20 : decode cX0_become 20 = .ok (.return_, 1) := by decide +kernel
theorem dX0_spans_0 : decode cX0_spans 0 = .ok (.aload_n 0, 1) := by decide +kernel
theorem dX0_spans_1 : decode cX0_spans 1 = .ok (.getfield 53, 3) := by decide +kernel
theorem dX0_spans_4 : decode cX0_spans 4 = .ok (.iconst (-1), 1) := by decide +kernel
theorem dX0_spans_5 : decode cX0_spans 5 = .ok (.if_icmp .eq 23, 3) := by decide +kernel
theorem dX0_spans_8 : decode cX0_spans 8 = .ok (.aload_n 0, 1) := by decide +kernel
theorem dX0_spans_9 : decode cX0_spans 9 = .ok (.getfield 53, 3) := by decide +kernel
theorem dX0_spans_12 : decode cX0_spans 12 = .ok (.iload_n 1, 1) := by decide +kernel
theorem dX0_spans_13 : decode cX0_spans 13 = .ok (.if_icmp .gt 15, 3) := by decide +kernel
theorem dX0_spans_16 : decode cX0_spans 16 = .ok (.iload_n 1, 1) := by decide +kernel
theorem dX0_spans_17 : decode cX0_spans 17 = .ok (.aload_n 0, 1) := by decide +kernel
theorem dX0_spans_18 : decode cX0_spans 18 = .ok (.getfield 56, 3) := by decide +kernel
theorem dX0_spans_21 : decode cX0_spans 21 = .ok (.if_icmp .gt 7, 3) := by decide +kernel
theorem dX0_spans_24 : decode cX0_spans 24 = .ok (.iconst 1, 1) := by decide +kernel
theorem dX0_spans_25 : decode cX0_spans 25 = .ok (.goto 4, 3) := by decide +kernel
theorem dX0_spans_28 : decode cX0_spans 28 = .ok (.iconst 0, 1) := by decide +kernel
theorem dX0_spans_29 : decode cX0_spans 29 = .ok (.ireturn, 1) := by decide +kernel
theorem dX0_hasLeft_0 : decode cX0_hasLeft 0 = .ok (.aload_n 0, 1) := by decide +kernel
theorem dX0_hasLeft_1 : decode cX0_hasLeft 1 = .ok (.getfield 32, 3) := by decide +kernel
theorem dX0_hasLeft_4 : decode cX0_hasLeft 4 = .ok (.iconst (-1), 1) := by decide +kernel
theorem dX0_hasLeft_5 : decode cX0_hasLeft 5 = .ok (.if_icmp .eq 34, 3) := by decide +kernel
theorem dX0_hasLeft_8 : decode cX0_hasLeft 8 = .ok (.aload_n 0, 1) := by decide +kernel
theorem dX0_hasLeft_9 : decode cX0_hasLeft 9 = .ok (.iload_n 1, 1) := by decide +kernel
theorem dX0_hasLeft_10 : decode cX0_hasLeft 10 = .ok (.invokevirtual 59, 3) := by decide +kernel
theorem dX0_hasLeft_13 : decode cX0_hasLeft 13 = .ok (.ifCond .eq 26, 3) := by decide +kernel
theorem dX0_hasLeft_16 : decode cX0_hasLeft 16 = .ok (.aload_n 0, 1) := by decide +kernel
theorem dX0_hasLeft_17 : decode cX0_hasLeft 17 = .ok (.aload_n 0, 1) := by decide +kernel
theorem dX0_hasLeft_18 : decode cX0_hasLeft 18 = .ok (.getfield 32, 3) := by decide +kernel
theorem dX0_hasLeft_21 : decode cX0_hasLeft 21 = .ok (.invokevirtual 59, 3) := by decide +kernel
theorem dX0_hasLeft_24 : decode cX0_hasLeft 24 = .ok (.ifCond .eq 11, 3) := by decide +kernel
theorem dX0_hasLeft_27 : decode cX0_hasLeft 27 = .ok (.aload_n 0, 1) := by decide +kernel
theorem dX0_hasLeft_28 : decode cX0_hasLeft 28 = .ok (.getfield 32, 3) := by decide +kernel
theorem dX0_hasLeft_31 : decode cX0_hasLeft 31 = .ok (.iload_n 1, 1) := by decide +kernel
theorem dX0_hasLeft_32 : decode cX0_hasLeft 32 = .ok (.if_icmp .le 7, 3) := by decide +kernel
theorem dX0_hasLeft_35 : decode cX0_hasLeft 35 = .ok (.iconst 1, 1) := by decide +kernel
theorem dX0_hasLeft_36 : decode cX0_hasLeft 36 = .ok (.goto 4, 3) := by decide +kernel
theorem dX0_hasLeft_39 : decode cX0_hasLeft 39 = .ok (.iconst 0, 1) := by decide +kernel
theorem dX0_hasLeft_40 : decode cX0_hasLeft 40 = .ok (.ireturn, 1) := by decide +kernel
theorem dX0_countWasted_0 : decode cX0_countWasted 0 = .ok (.aload_n 0, 1) := by decide +kernel
theorem dX0_countWasted_1 : decode cX0_countWasted 1 = .ok (.getfield 9, 3) := by decide +kernel
theorem dX0_countWasted_4 : decode cX0_countWasted 4 = .ok (.iconst 4, 1) := by decide +kernel
theorem dX0_countWasted_5 : decode cX0_countWasted 5 = .ok (.dup2, 1) := by decide +kernel
theorem dX0_countWasted_6 : decode cX0_countWasted 6 = .ok (.iaload, 1) := by decide +kernel
theorem dX0_countWasted_7 : decode cX0_countWasted 7 = .ok (.iconst 1, 1) := by decide +kernel
theorem dX0_countWasted_8 : decode cX0_countWasted 8 = .ok (.iadd, 1) := by decide +kernel
theorem dX0_countWasted_9 : decode cX0_countWasted 9 = .ok (.iastore, 1) := by decide +kernel
theorem dX0_countWasted_10 : decode cX0_countWasted 10 = .ok (.aload_n 0, 1) := by decide +kernel
theorem dX0_countWasted_11 : decode cX0_countWasted 11 = .ok (.getfield 47, 3) := by decide +kernel
theorem dX0_countWasted_14 : decode cX0_countWasted 14 = .ok (.iconst 5, 1) := by decide +kernel
theorem dX0_countWasted_15 : decode cX0_countWasted 15 = .ok (.if_icmp .ne 13, 3) := by decide +kernel
theorem dX0_countWasted_18 : decode cX0_countWasted 18 = .ok (.aload_n 0, 1) := by decide +kernel
theorem dX0_countWasted_19 : decode cX0_countWasted 19 = .ok (.aload_n 0, 1) := by decide +kernel
theorem dX0_countWasted_20 : decode cX0_countWasted 20 = .ok (.getfield 50, 3) := by decide +kernel
theorem dX0_countWasted_23 : decode cX0_countWasted 23 = .ok (.iconst 2, 1) := by decide +kernel
theorem dX0_countWasted_24 : decode cX0_countWasted 24 = .ok (.idiv, 1) := by decide +kernel
theorem dX0_countWasted_25 : decode cX0_countWasted 25 = .ok (.putfield 50, 3) := by decide +kernel
theorem dX0_countWasted_28 : decode cX0_countWasted 28 = .ok (.return_, 1) := by decide +kernel
theorem dX0_countSaved_0 : decode cX0_countSaved 0 = .ok (.aload_n 0, 1) := by decide +kernel
theorem dX0_countSaved_1 : decode cX0_countSaved 1 = .ok (.getfield 9, 3) := by decide +kernel
theorem dX0_countSaved_4 : decode cX0_countSaved 4 = .ok (.iconst 5, 1) := by decide +kernel
theorem dX0_countSaved_5 : decode cX0_countSaved 5 = .ok (.dup2, 1) := by decide +kernel
theorem dX0_countSaved_6 : decode cX0_countSaved 6 = .ok (.iaload, 1) := by decide +kernel
theorem dX0_countSaved_7 : decode cX0_countSaved 7 = .ok (.iconst 1, 1) := by decide +kernel
theorem dX0_countSaved_8 : decode cX0_countSaved 8 = .ok (.iadd, 1) := by decide +kernel
theorem dX0_countSaved_9 : decode cX0_countSaved 9 = .ok (.iastore, 1) := by decide +kernel
theorem dX0_countSaved_10 : decode cX0_countSaved 10 = .ok (.aload_n 0, 1) := by decide +kernel
theorem dX0_countSaved_11 : decode cX0_countSaved 11 = .ok (.getfield 47, 3) := by decide +kernel
theorem dX0_countSaved_14 : decode cX0_countSaved 14 = .ok (.iconst 5, 1) := by decide +kernel
theorem dX0_countSaved_15 : decode cX0_countSaved 15 = .ok (.if_icmp .ne 18, 3) := by decide +kernel
theorem dX0_countSaved_18 : decode cX0_countSaved 18 = .ok (.aload_n 0, 1) := by decide +kernel
theorem dX0_countSaved_19 : decode cX0_countSaved 19 = .ok (.aload_n 0, 1) := by decide +kernel
theorem dX0_countSaved_20 : decode cX0_countSaved 20 = .ok (.getfield 50, 3) := by decide +kernel
theorem dX0_countSaved_23 : decode cX0_countSaved 23 = .ok (.iconst 1, 1) := by decide +kernel
theorem dX0_countSaved_24 : decode cX0_countSaved 24 = .ok (.iadd, 1) := by decide +kernel
theorem dX0_countSaved_25 : decode cX0_countSaved 25 = .ok (.bipush 8, 2) := by decide +kernel
theorem dX0_countSaved_27 : decode cX0_countSaved 27 = .ok (.invokestatic 63, 3) := by decide +kernel
theorem dX0_countSaved_30 : decode cX0_countSaved 30 = .ok (.putfield 50, 3) := by decide +kernel
theorem dX0_countSaved_33 : decode cX0_countSaved 33 = .ok (.return_, 1) := by decide +kernel
theorem dX0_learn_0 : decode cX0_learn 0 = .ok (.aload_n 0, 1) := by decide +kernel
theorem dX0_learn_1 : decode cX0_learn 1 = .ok (.getfield 32, 3) := by decide +kernel
theorem dX0_learn_4 : decode cX0_learn 4 = .ok (.iconst (-1), 1) := by decide +kernel
theorem dX0_learn_5 : decode cX0_learn 5 = .ok (.if_icmp .eq 31, 3) := by decide +kernel
theorem dX0_learn_8 : decode cX0_learn 8 = .ok (.aload_n 0, 1) := by decide +kernel
theorem dX0_learn_9 : decode cX0_learn 9 = .ok (.getfield 15, 3) := by decide +kernel
theorem dX0_learn_12 : decode cX0_learn 12 = .ok (.aload_n 0, 1) := by decide +kernel
theorem dX0_learn_13 : decode cX0_learn 13 = .ok (.getfield 32, 3) := by decide +kernel
theorem dX0_learn_16 : decode cX0_learn 16 = .ok (.iload_n 1, 1) := by decide +kernel
theorem dX0_learn_17 : decode cX0_learn 17 = .ok (.iastore, 1) := by decide +kernel
theorem dX0_learn_18 : decode cX0_learn 18 = .ok (.aload_n 0, 1) := by decide +kernel
theorem dX0_learn_19 : decode cX0_learn 19 = .ok (.aload_n 0, 1) := by decide +kernel
theorem dX0_learn_20 : decode cX0_learn 20 = .ok (.getfield 35, 3) := by decide +kernel
theorem dX0_learn_23 : decode cX0_learn 23 = .ok (.putfield 38, 3) := by decide +kernel
theorem dX0_learn_26 : decode cX0_learn 26 = .ok (.aload_n 0, 1) := by decide +kernel
theorem dX0_learn_27 : decode cX0_learn 27 = .ok (.iload_n 1, 1) := by decide +kernel
theorem dX0_learn_28 : decode cX0_learn 28 = .ok (.aload_n 0, 1) := by decide +kernel
theorem dX0_learn_29 : decode cX0_learn 29 = .ok (.getfield 32, 3) := by decide +kernel
theorem dX0_learn_32 : decode cX0_learn 32 = .ok (.isub, 1) := by decide +kernel
theorem dX0_learn_33 : decode cX0_learn 33 = .ok (.putfield 35, 3) := by decide +kernel
theorem dX0_learn_36 : decode cX0_learn 36 = .ok (.aload_n 0, 1) := by decide +kernel
theorem dX0_learn_37 : decode cX0_learn 37 = .ok (.iload_n 1, 1) := by decide +kernel
theorem dX0_learn_38 : decode cX0_learn 38 = .ok (.putfield 32, 3) := by decide +kernel
theorem dX0_learn_41 : decode cX0_learn 41 = .ok (.return_, 1) := by decide +kernel
theorem dX0_isSteady_0 : decode cX0_isSteady 0 = .ok (.aload_n 0, 1) := by decide +kernel
theorem dX0_isSteady_1 : decode cX0_isSteady 1 = .ok (.getfield 35, 3) := by decide +kernel
theorem dX0_isSteady_4 : decode cX0_isSteady 4 = .ok (.ifCond .eq 18, 3) := by decide +kernel
theorem dX0_isSteady_7 : decode cX0_isSteady 7 = .ok (.aload_n 0, 1) := by decide +kernel
theorem dX0_isSteady_8 : decode cX0_isSteady 8 = .ok (.getfield 35, 3) := by decide +kernel
theorem dX0_isSteady_11 : decode cX0_isSteady 11 = .ok (.aload_n 0, 1) := by decide +kernel
theorem dX0_isSteady_12 : decode cX0_isSteady 12 = .ok (.getfield 38, 3) := by decide +kernel
theorem dX0_isSteady_15 : decode cX0_isSteady 15 = .ok (.if_icmp .ne 7, 3) := by decide +kernel
theorem dX0_isSteady_18 : decode cX0_isSteady 18 = .ok (.iconst 1, 1) := by decide +kernel
theorem dX0_isSteady_19 : decode cX0_isSteady 19 = .ok (.goto 4, 3) := by decide +kernel
theorem dX0_isSteady_22 : decode cX0_isSteady 22 = .ok (.iconst 0, 1) := by decide +kernel
theorem dX0_isSteady_23 : decode cX0_isSteady 23 = .ok (.ireturn, 1) := by decide +kernel
theorem dX1_init_0 : decode cX1_init 0 = .ok (.aload_n 0, 1) := by decide +kernel
theorem dX1_init_1 : decode cX1_init 1 = .ok (.invokespecial 3, 3) := by decide +kernel
theorem dX1_init_4 : decode cX1_init 4 = .ok (.aload_n 0, 1) := by decide +kernel
theorem dX1_init_5 : decode cX1_init 5 = .ok (.bipush 7, 2) := by decide +kernel
theorem dX1_init_7 : decode cX1_init 7 = .ok (.newarray .int, 2) := by decide +kernel
theorem dX1_init_9 : decode cX1_init 9 = .ok (.putfield 11, 3) := by decide +kernel
theorem dX1_init_12 : decode cX1_init 12 = .ok (.aload_n 0, 1) := by decide +kernel
theorem dX1_init_13 : decode cX1_init 13 = .ok (.bipush 24, 2) := by decide +kernel
theorem dX1_init_15 : decode cX1_init 15 = .ok (.newarray .int, 2) := by decide +kernel
theorem dX1_init_17 : decode cX1_init 17 = .ok (.putfield 15, 3) := by decide +kernel
theorem dX1_init_20 : decode cX1_init 20 = .ok (.aload_n 0, 1) := by decide +kernel
theorem dX1_init_21 : decode cX1_init 21 = .ok (.bipush 25, 2) := by decide +kernel
theorem dX1_init_23 : decode cX1_init 23 = .ok (.newarray .long, 2) := by decide +kernel
theorem dX1_init_25 : decode cX1_init 25 = .ok (.putfield 18, 3) := by decide +kernel
theorem dX1_init_28 : decode cX1_init 28 = .ok (.aload_n 0, 1) := by decide +kernel
theorem dX1_init_29 : decode cX1_init 29 = .ok (.bipush 25, 2) := by decide +kernel
theorem dX1_init_31 : decode cX1_init 31 = .ok (.newarray .long, 2) := by decide +kernel
theorem dX1_init_33 : decode cX1_init 33 = .ok (.putfield 22, 3) := by decide +kernel
theorem dX1_init_36 : decode cX1_init 36 = .ok (.return_, 1) := by decide +kernel
theorem dX1_leastStalls_0 : decode cX1_leastStalls 0 = .ok (.aload_n 0, 1) := by decide +kernel
theorem dX1_leastStalls_1 : decode cX1_leastStalls 1 = .ok (.aload_n 1, 1) := by decide +kernel
theorem dX1_leastStalls_2 : decode cX1_leastStalls 2 = .ok (.iload_n 2, 1) := by decide +kernel
theorem dX1_leastStalls_3 : decode cX1_leastStalls 3 = .ok (.invokevirtual 25, 3) := by decide +kernel
theorem dX1_leastStalls_6 : decode cX1_leastStalls 6 = .ok (.ifCond .ne 6, 3) := by decide +kernel
theorem dX1_leastStalls_9 : decode cX1_leastStalls 9 = .ok (.bipush (-103), 2) := by decide +kernel
theorem dX1_leastStalls_11 : decode cX1_leastStalls 11 = .ok (.ireturn, 1) := by decide +kernel
theorem dX1_leastStalls_12 : decode cX1_leastStalls 12 = .ok (.aload_n 0, 1) := by decide +kernel
theorem dX1_leastStalls_13 : decode cX1_leastStalls 13 = .ok (.aload_n 1, 1) := by decide +kernel
theorem dX1_leastStalls_14 : decode cX1_leastStalls 14 = .ok (.getfield 29, 3) := by decide +kernel
theorem dX1_leastStalls_17 : decode cX1_leastStalls 17 = .ok (.putfield 35, 3) := by decide +kernel
theorem dX1_leastStalls_20 : decode cX1_leastStalls 20 = .ok (.aload_n 0, 1) := by decide +kernel
theorem dX1_leastStalls_21 : decode cX1_leastStalls 21 = .ok (.aload_n 1, 1) := by decide +kernel
theorem dX1_leastStalls_22 : decode cX1_leastStalls 22 = .ok (.getfield 36, 3) := by decide +kernel
theorem dX1_leastStalls_25 : decode cX1_leastStalls 25 = .ok (.invokestatic 39, 3) := by decide +kernel
theorem dX1_leastStalls_28 : decode cX1_leastStalls 28 = .ok (.putfield 43, 3) := by decide +kernel
theorem dX1_leastStalls_31 : decode cX1_leastStalls 31 = .ok (.aload_n 0, 1) := by decide +kernel
theorem dX1_leastStalls_32 : decode cX1_leastStalls 32 = .ok (.aload_n 1, 1) := by decide +kernel
theorem dX1_leastStalls_33 : decode cX1_leastStalls 33 = .ok (.getfield 36, 3) := by decide +kernel
theorem dX1_leastStalls_36 : decode cX1_leastStalls 36 = .ok (.iconst 1, 1) := by decide +kernel
theorem dX1_leastStalls_37 : decode cX1_leastStalls 37 = .ok (.isub, 1) := by decide +kernel
theorem dX1_leastStalls_38 : decode cX1_leastStalls 38 = .ok (.invokestatic 39, 3) := by decide +kernel
theorem dX1_leastStalls_41 : decode cX1_leastStalls 41 = .ok (.putfield 47, 3) := by decide +kernel
theorem dX1_leastStalls_44 : decode cX1_leastStalls 44 = .ok (.aload_n 0, 1) := by decide +kernel
theorem dX1_leastStalls_45 : decode cX1_leastStalls 45 = .ok (.getfield 18, 3) := by decide +kernel
theorem dX1_leastStalls_48 : decode cX1_leastStalls 48 = .ok (.lconst 0, 1) := by decide +kernel
theorem dX1_leastStalls_49 : decode cX1_leastStalls 49 = .ok (.invokestatic 50, 3) := by decide +kernel
theorem dX1_leastStalls_52 : decode cX1_leastStalls 52 = .ok (.aload_n 0, 1) := by decide +kernel
theorem dX1_leastStalls_53 : decode cX1_leastStalls 53 = .ok (.getfield 22, 3) := by decide +kernel
theorem dX1_leastStalls_56 : decode cX1_leastStalls 56 = .ok (.lconst 0, 1) := by decide +kernel
theorem dX1_leastStalls_57 : decode cX1_leastStalls 57 = .ok (.invokestatic 50, 3) := by decide +kernel
theorem dX1_leastStalls_60 : decode cX1_leastStalls 60 = .ok (.aload_n 0, 1) := by decide +kernel
theorem dX1_leastStalls_61 : decode cX1_leastStalls 61 = .ok (.getfield 18, 3) := by decide +kernel
theorem dX1_leastStalls_64 : decode cX1_leastStalls 64 = .ok (.iconst 0, 1) := by decide +kernel
theorem dX1_leastStalls_65 : decode cX1_leastStalls 65 = .ok (.lconst 1, 1) := by decide +kernel
theorem dX1_leastStalls_66 : decode cX1_leastStalls 66 = .ok (.lastore, 1) := by decide +kernel
theorem dX1_leastStalls_67 : decode cX1_leastStalls 67 = .ok (.iconst 0, 1) := by decide +kernel
theorem dX1_leastStalls_68 : decode cX1_leastStalls 68 = .ok (.istore_n 3, 1) := by decide +kernel
theorem dX1_leastStalls_69 : decode cX1_leastStalls 69 = .ok (.iload_n 3, 1) := by decide +kernel
theorem dX1_leastStalls_70 : decode cX1_leastStalls 70 = .ok (.iload_n 2, 1) := by decide +kernel
theorem dX1_leastStalls_71 : decode cX1_leastStalls 71 = .ok (.if_icmp .ge 48, 3) := by decide +kernel
theorem dX1_leastStalls_74 : decode cX1_leastStalls 74 = .ok (.aload_n 0, 1) := by decide +kernel
theorem dX1_leastStalls_75 : decode cX1_leastStalls 75 = .ok (.aload_n 0, 1) := by decide +kernel
theorem dX1_leastStalls_76 : decode cX1_leastStalls 76 = .ok (.getfield 15, 3) := by decide +kernel
theorem dX1_leastStalls_79 : decode cX1_leastStalls 79 = .ok (.iload_n 3, 1) := by decide +kernel
theorem dX1_leastStalls_80 : decode cX1_leastStalls 80 = .ok (.iaload, 1) := by decide +kernel
theorem dX1_leastStalls_81 : decode cX1_leastStalls 81 = .ok (.iload_n 2, 1) := by decide +kernel
theorem dX1_leastStalls_82 : decode cX1_leastStalls 82 = .ok (.invokevirtual 56, 3) := by decide +kernel
theorem dX1_leastStalls_85 : decode cX1_leastStalls 85 = .ok (.aload_n 1, 1) := by decide +kernel
theorem dX1_leastStalls_86 : decode cX1_leastStalls 86 = .ok (.getfield 60, 3) := by decide +kernel
theorem dX1_leastStalls_89 : decode cX1_leastStalls 89 = .ok (.iload_n 2, 1) := by decide +kernel
theorem dX1_leastStalls_90 : decode cX1_leastStalls 90 = .ok (.isub, 1) := by decide +kernel
theorem dX1_leastStalls_91 : decode cX1_leastStalls 91 = .ok (.iload_n 3, 1) := by decide +kernel
theorem dX1_leastStalls_92 : decode cX1_leastStalls 92 = .ok (.iadd, 1) := by decide +kernel
theorem dX1_leastStalls_93 : decode cX1_leastStalls 93 = .ok (.iconst 1, 1) := by decide +kernel
theorem dX1_leastStalls_94 : decode cX1_leastStalls 94 = .ok (.iadd, 1) := by decide +kernel
theorem dX1_leastStalls_95 : decode cX1_leastStalls 95 = .ok (.aload_n 1, 1) := by decide +kernel
theorem dX1_leastStalls_96 : decode cX1_leastStalls 96 = .ok (.getfield 63, 3) := by decide +kernel
theorem dX1_leastStalls_99 : decode cX1_leastStalls 99 = .ok (.irem, 1) := by decide +kernel
theorem dX1_leastStalls_100 : decode cX1_leastStalls 100 = .ok (.ifCond .ne 8, 3) := by decide +kernel
theorem dX1_leastStalls_103 : decode cX1_leastStalls 103 = .ok (.aload_n 0, 1) := by decide +kernel
theorem dX1_leastStalls_104 : decode cX1_leastStalls 104 = .ok (.iload_n 2, 1) := by decide +kernel
theorem dX1_leastStalls_105 : decode cX1_leastStalls 105 = .ok (.invokevirtual 66, 3) := by decide +kernel
theorem dX1_leastStalls_108 : decode cX1_leastStalls 108 = .ok (.aload_n 0, 1) := by decide +kernel
theorem dX1_leastStalls_109 : decode cX1_leastStalls 109 = .ok (.iload_n 2, 1) := by decide +kernel
theorem dX1_leastStalls_110 : decode cX1_leastStalls 110 = .ok (.invokevirtual 70, 3) := by decide +kernel
theorem dX1_leastStalls_113 : decode cX1_leastStalls 113 = .ok (.iinc 3 1, 3) := by decide +kernel
theorem dX1_leastStalls_116 : decode cX1_leastStalls 116 = .ok (.goto (-47), 3) := by decide +kernel
theorem dX1_leastStalls_119 : decode cX1_leastStalls 119 = .ok (.aload_n 0, 1) := by decide +kernel
theorem dX1_leastStalls_120 : decode cX1_leastStalls 120 = .ok (.iload_n 2, 1) := by decide +kernel
theorem dX1_leastStalls_121 : decode cX1_leastStalls 121 = .ok (.invokevirtual 73, 3) := by decide +kernel
theorem dX1_leastStalls_124 : decode cX1_leastStalls 124 = .ok (.ireturn, 1) := by decide +kernel
theorem dX1_number_0 : decode cX1_number 0 = .ok (.iconst 0, 1) := by decide +kernel
theorem dX1_number_1 : decode cX1_number 1 = .ok (.istore_n 3, 1) := by decide +kernel
theorem dX1_number_2 : decode cX1_number 2 = .ok (.iconst 0, 1) := by decide +kernel
theorem dX1_number_3 : decode cX1_number 3 = .ok (.istore 4, 2) := by decide +kernel
theorem dX1_number_5 : decode cX1_number 5 = .ok (.iload 4, 2) := by decide +kernel
theorem dX1_number_7 : decode cX1_number 7 = .ok (.iload_n 2, 1) := by decide +kernel
theorem dX1_number_8 : decode cX1_number 8 = .ok (.if_icmp .ge 89, 3) := by decide +kernel
theorem dX1_number_11 : decode cX1_number 11 = .ok (.aload_n 1, 1) := by decide +kernel
theorem dX1_number_12 : decode cX1_number 12 = .ok (.aload_n 1, 1) := by decide +kernel
theorem dX1_number_13 : decode cX1_number 13 = .ok (.getfield 60, 3) := by decide +kernel
theorem dX1_number_16 : decode cX1_number 16 = .ok (.iload_n 2, 1) := by decide +kernel
theorem dX1_number_17 : decode cX1_number 17 = .ok (.isub, 1) := by decide +kernel
theorem dX1_number_18 : decode cX1_number 18 = .ok (.iload 4, 2) := by decide +kernel
theorem dX1_number_20 : decode cX1_number 20 = .ok (.iadd, 1) := by decide +kernel
theorem dX1_number_21 : decode cX1_number 21 = .ok (.iconst 1, 1) := by decide +kernel
theorem dX1_number_22 : decode cX1_number 22 = .ok (.iadd, 1) := by decide +kernel
theorem dX1_number_23 : decode cX1_number 23 = .ok (.invokevirtual 77, 3) := by decide +kernel
theorem dX1_number_26 : decode cX1_number 26 = .ok (.istore 5, 2) := by decide +kernel
theorem dX1_number_28 : decode cX1_number 28 = .ok (.iconst 0, 1) := by decide +kernel
theorem dX1_number_29 : decode cX1_number 29 = .ok (.istore 6, 2) := by decide +kernel
theorem dX1_number_31 : decode cX1_number 31 = .ok (.iload 6, 2) := by decide +kernel
theorem dX1_number_33 : decode cX1_number 33 = .ok (.iload_n 3, 1) := by decide +kernel
theorem dX1_number_34 : decode cX1_number 34 = .ok (.if_icmp .ge 21, 3) := by decide +kernel
theorem dX1_number_37 : decode cX1_number 37 = .ok (.aload_n 0, 1) := by decide +kernel
theorem dX1_number_38 : decode cX1_number 38 = .ok (.getfield 11, 3) := by decide +kernel
theorem dX1_number_41 : decode cX1_number 41 = .ok (.iload 6, 2) := by decide +kernel
theorem dX1_number_43 : decode cX1_number 43 = .ok (.iaload, 1) := by decide +kernel
theorem dX1_number_44 : decode cX1_number 44 = .ok (.iload 5, 2) := by decide +kernel
theorem dX1_number_46 : decode cX1_number 46 = .ok (.if_icmp .eq 9, 3) := by decide +kernel
theorem dX1_number_49 : decode cX1_number 49 = .ok (.iinc 6 1, 3) := by decide +kernel
theorem dX1_number_52 : decode cX1_number 52 = .ok (.goto (-21), 3) := by decide +kernel
theorem dX1_number_55 : decode cX1_number 55 = .ok (.iload 6, 2) := by decide +kernel
theorem dX1_number_57 : decode cX1_number 57 = .ok (.bipush 7, 2) := by decide +kernel
theorem dX1_number_59 : decode cX1_number 59 = .ok (.if_icmp .lt 5, 3) := by decide +kernel
theorem dX1_number_62 : decode cX1_number 62 = .ok (.iconst 0, 1) := by decide +kernel
theorem dX1_number_63 : decode cX1_number 63 = .ok (.ireturn, 1) := by decide +kernel
theorem dX1_number_64 : decode cX1_number 64 = .ok (.iload 6, 2) := by decide +kernel
theorem dX1_number_66 : decode cX1_number 66 = .ok (.iload_n 3, 1) := by decide +kernel
theorem dX1_number_67 : decode cX1_number 67 = .ok (.if_icmp .ne 15, 3) := by decide +kernel
theorem dX1_number_70 : decode cX1_number 70 = .ok (.aload_n 0, 1) := by decide +kernel
theorem dX1_number_71 : decode cX1_number 71 = .ok (.getfield 11, 3) := by decide +kernel
theorem dX1_number_74 : decode cX1_number 74 = .ok (.iload 6, 2) := by decide +kernel
theorem dX1_number_76 : decode cX1_number 76 = .ok (.iload 5, 2) := by decide +kernel
theorem dX1_number_78 : decode cX1_number 78 = .ok (.iastore, 1) := by decide +kernel
theorem dX1_number_79 : decode cX1_number 79 = .ok (.iinc 3 1, 3) := by decide +kernel
theorem dX1_number_82 : decode cX1_number 82 = .ok (.aload_n 0, 1) := by decide +kernel
theorem dX1_number_83 : decode cX1_number 83 = .ok (.getfield 15, 3) := by decide +kernel
theorem dX1_number_86 : decode cX1_number 86 = .ok (.iload 4, 2) := by decide +kernel
theorem dX1_number_88 : decode cX1_number 88 = .ok (.iload 6, 2) := by decide +kernel
theorem dX1_number_90 : decode cX1_number 90 = .ok (.iastore, 1) := by decide +kernel
theorem dX1_number_91 : decode cX1_number 91 = .ok (.iinc 4 1, 3) := by decide +kernel
theorem dX1_number_94 : decode cX1_number 94 = .ok (.goto (-89), 3) := by decide +kernel
theorem dX1_number_97 : decode cX1_number 97 = .ok (.iconst 1, 1) := by decide +kernel
theorem dX1_number_98 : decode cX1_number 98 = .ok (.ireturn, 1) := by decide +kernel
theorem dX1_sized_0 : decode cX1_sized 0 = .ok (.iload_n 0, 1) := by decide +kernel
theorem dX1_sized_1 : decode cX1_sized 1 = .ok (.iconst 0, 1) := by decide +kernel
theorem dX1_sized_2 : decode cX1_sized 2 = .ok (.bipush 6, 2) := by decide +kernel
theorem dX1_sized_4 : decode cX1_sized 4 = .ok (.invokestatic 80, 3) := by decide +kernel
theorem dX1_sized_7 : decode cX1_sized 7 = .ok (.ifCond .eq 11, 3) := by decide +kernel
theorem dX1_sized_10 : decode cX1_sized 10 = .ok (.getstatic 84, 3) := by decide +kernel
theorem dX1_sized_13 : decode cX1_sized 13 = .ok (.iload_n 0, 1) := by decide +kernel
theorem dX1_sized_14 : decode cX1_sized 14 = .ok (.laload, 1) := by decide +kernel
theorem dX1_sized_15 : decode cX1_sized 15 = .ok (.goto 4, 3) := by decide +kernel
theorem dX1_sized_18 : decode cX1_sized 18 = .ok (.lconst 0, 1) := by decide +kernel
theorem dX1_sized_19 : decode cX1_sized 19 = .ok (.lreturn, 1) := by decide +kernel
theorem dX1_passAsk_0 : decode cX1_passAsk 0 = .ok (.iload_n 1, 1) := by decide +kernel
theorem dX1_passAsk_1 : decode cX1_passAsk 1 = .ok (.bipush 6, 2) := by decide +kernel
theorem dX1_passAsk_3 : decode cX1_passAsk 3 = .ok (.if_icmp .ge 11, 3) := by decide +kernel
theorem dX1_passAsk_6 : decode cX1_passAsk 6 = .ok (.getstatic 87, 3) := by decide +kernel
theorem dX1_passAsk_9 : decode cX1_passAsk 9 = .ok (.iload_n 1, 1) := by decide +kernel
theorem dX1_passAsk_10 : decode cX1_passAsk 10 = .ok (.laload, 1) := by decide +kernel
theorem dX1_passAsk_11 : decode cX1_passAsk 11 = .ok (.goto 4, 3) := by decide +kernel
theorem dX1_passAsk_14 : decode cX1_passAsk 14 = .ok (.lconst 0, 1) := by decide +kernel
theorem dX1_passAsk_15 : decode cX1_passAsk 15 = .ok (.lstore_n 3, 1) := by decide +kernel
theorem dX1_passAsk_16 : decode cX1_passAsk 16 = .ok (.iload_n 1, 1) := by decide +kernel
theorem dX1_passAsk_17 : decode cX1_passAsk 17 = .ok (.bipush 6, 2) := by decide +kernel
theorem dX1_passAsk_19 : decode cX1_passAsk 19 = .ok (.if_icmp .ge 11, 3) := by decide +kernel
theorem dX1_passAsk_22 : decode cX1_passAsk 22 = .ok (.getstatic 87, 3) := by decide +kernel
theorem dX1_passAsk_25 : decode cX1_passAsk 25 = .ok (.iload_n 1, 1) := by decide +kernel
theorem dX1_passAsk_26 : decode cX1_passAsk 26 = .ok (.laload, 1) := by decide +kernel
theorem dX1_passAsk_27 : decode cX1_passAsk 27 = .ok (.goto 6, 3) := by decide +kernel
theorem dX1_passAsk_30 : decode cX1_passAsk 30 = .ok (.ldc2_w 90, 3) := by decide +kernel
theorem dX1_passAsk_33 : decode cX1_passAsk 33 = .ok (.lstore 5, 2) := by decide +kernel
theorem dX1_passAsk_35 : decode cX1_passAsk 35 = .ok (.lconst 0, 1) := by decide +kernel
theorem dX1_passAsk_36 : decode cX1_passAsk 36 = .ok (.lstore 7, 2) := by decide +kernel
theorem dX1_passAsk_38 : decode cX1_passAsk 38 = .ok (.lconst 0, 1) := by decide +kernel
theorem dX1_passAsk_39 : decode cX1_passAsk 39 = .ok (.lstore 9, 2) := by decide +kernel
theorem dX1_passAsk_41 : decode cX1_passAsk 41 = .ok (.lconst 0, 1) := by decide +kernel
theorem dX1_passAsk_42 : decode cX1_passAsk 42 = .ok (.lstore 11, 2) := by decide +kernel
theorem dX1_passAsk_44 : decode cX1_passAsk 44 = .ok (.lconst 0, 1) := by decide +kernel
theorem dX1_passAsk_45 : decode cX1_passAsk 45 = .ok (.lstore 13, 2) := by decide +kernel
theorem dX1_passAsk_47 : decode cX1_passAsk 47 = .ok (.lconst 0, 1) := by decide +kernel
theorem dX1_passAsk_48 : decode cX1_passAsk 48 = .ok (.lstore 15, 2) := by decide +kernel
theorem dX1_passAsk_50 : decode cX1_passAsk 50 = .ok (.lconst 0, 1) := by decide +kernel
theorem dX1_passAsk_51 : decode cX1_passAsk 51 = .ok (.lstore 17, 2) := by decide +kernel
theorem dX1_passAsk_53 : decode cX1_passAsk 53 = .ok (.iconst 0, 1) := by decide +kernel
theorem dX1_passAsk_54 : decode cX1_passAsk 54 = .ok (.istore 19, 2) := by decide +kernel
theorem dX1_passAsk_56 : decode cX1_passAsk 56 = .ok (.iload 19, 2) := by decide +kernel
theorem dX1_passAsk_58 : decode cX1_passAsk 58 = .ok (.iload_n 2, 1) := by decide +kernel
theorem dX1_passAsk_59 : decode cX1_passAsk 59 = .ok (.if_icmp .gt 194, 3) := by decide +kernel
theorem dX1_passAsk_62 : decode cX1_passAsk 62 = .ok (.aload_n 0, 1) := by decide +kernel
theorem dX1_passAsk_63 : decode cX1_passAsk 63 = .ok (.getfield 18, 3) := by decide +kernel
theorem dX1_passAsk_66 : decode cX1_passAsk 66 = .ok (.iload 19, 2) := by decide +kernel
theorem dX1_passAsk_68 : decode cX1_passAsk 68 = .ok (.laload, 1) := by decide +kernel
theorem dX1_passAsk_69 : decode cX1_passAsk 69 = .ok (.lload 7, 2) := by decide +kernel
theorem dX1_passAsk_71 : decode cX1_passAsk 71 = .ok (.lor, 1) := by decide +kernel
theorem dX1_passAsk_72 : decode cX1_passAsk 72 = .ok (.lstore 20, 2) := by decide +kernel
theorem dX1_passAsk_74 : decode cX1_passAsk 74 = .ok (.aload_n 0, 1) := by decide +kernel
theorem dX1_passAsk_75 : decode cX1_passAsk 75 = .ok (.getfield 22, 3) := by decide +kernel
theorem dX1_passAsk_78 : decode cX1_passAsk 78 = .ok (.iload 19, 2) := by decide +kernel
theorem dX1_passAsk_80 : decode cX1_passAsk 80 = .ok (.laload, 1) := by decide +kernel
theorem dX1_passAsk_81 : decode cX1_passAsk 81 = .ok (.lload 9, 2) := by decide +kernel
theorem dX1_passAsk_83 : decode cX1_passAsk 83 = .ok (.lor, 1) := by decide +kernel
theorem dX1_passAsk_84 : decode cX1_passAsk 84 = .ok (.lstore 22, 2) := by decide +kernel
theorem dX1_passAsk_86 : decode cX1_passAsk 86 = .ok (.aload_n 0, 1) := by decide +kernel
theorem dX1_passAsk_87 : decode cX1_passAsk 87 = .ok (.getfield 18, 3) := by decide +kernel
theorem dX1_passAsk_90 : decode cX1_passAsk 90 = .ok (.iload 19, 2) := by decide +kernel
theorem dX1_passAsk_92 : decode cX1_passAsk 92 = .ok (.lload 20, 2) := by decide +kernel
theorem dX1_passAsk_94 : decode cX1_passAsk 94 = .ok (.lload_n 3, 1) := by decide +kernel
theorem dX1_passAsk_95 : decode cX1_passAsk 95 = .ok (.land, 1) := by decide +kernel
theorem dX1_passAsk_96 : decode cX1_passAsk 96 = .ok (.lload 11, 2) := by decide +kernel
theorem dX1_passAsk_98 : decode cX1_passAsk 98 = .ok (.lor, 1) := by decide +kernel
theorem dX1_passAsk_99 : decode cX1_passAsk 99 = .ok (.lastore, 1) := by decide +kernel
theorem dX1_passAsk_100 : decode cX1_passAsk 100 = .ok (.aload_n 0, 1) := by decide +kernel
theorem dX1_passAsk_101 : decode cX1_passAsk 101 = .ok (.getfield 22, 3) := by decide +kernel
theorem dX1_passAsk_104 : decode cX1_passAsk 104 = .ok (.iload 19, 2) := by decide +kernel
theorem dX1_passAsk_106 : decode cX1_passAsk 106 = .ok (.lload 22, 2) := by decide +kernel
theorem dX1_passAsk_108 : decode cX1_passAsk 108 = .ok (.lload 5, 2) := by decide +kernel
theorem dX1_passAsk_110 : decode cX1_passAsk 110 = .ok (.land, 1) := by decide +kernel
theorem dX1_passAsk_111 : decode cX1_passAsk 111 = .ok (.lload 13, 2) := by decide +kernel
theorem dX1_passAsk_113 : decode cX1_passAsk 113 = .ok (.lor, 1) := by decide +kernel
theorem dX1_passAsk_114 : decode cX1_passAsk 114 = .ok (.lastore, 1) := by decide +kernel
theorem dX1_passAsk_115 : decode cX1_passAsk 115 = .ok (.aload_n 0, 1) := by decide +kernel
theorem dX1_passAsk_116 : decode cX1_passAsk 116 = .ok (.lload 20, 2) := by decide +kernel
theorem dX1_passAsk_118 : decode cX1_passAsk 118 = .ok (.lload_n 3, 1) := by decide +kernel
theorem dX1_passAsk_119 : decode cX1_passAsk 119 = .ok (.ldc2_w 90, 3) := by decide +kernel
theorem dX1_passAsk_122 : decode cX1_passAsk 122 = .ok (.lxor, 1) := by decide +kernel
theorem dX1_passAsk_123 : decode cX1_passAsk 123 = .ok (.land, 1) := by decide +kernel
theorem dX1_passAsk_124 : decode cX1_passAsk 124 = .ok (.lload 15, 2) := by decide +kernel
theorem dX1_passAsk_126 : decode cX1_passAsk 126 = .ok (.ldc2_w 90, 3) := by decide +kernel
theorem dX1_passAsk_129 : decode cX1_passAsk 129 = .ok (.lxor, 1) := by decide +kernel
theorem dX1_passAsk_130 : decode cX1_passAsk 130 = .ok (.land, 1) := by decide +kernel
theorem dX1_passAsk_131 : decode cX1_passAsk 131 = .ok (.putfield 92, 3) := by decide +kernel
theorem dX1_passAsk_134 : decode cX1_passAsk 134 = .ok (.aload_n 0, 1) := by decide +kernel
theorem dX1_passAsk_135 : decode cX1_passAsk 135 = .ok (.lload 22, 2) := by decide +kernel
theorem dX1_passAsk_137 : decode cX1_passAsk 137 = .ok (.lload 5, 2) := by decide +kernel
theorem dX1_passAsk_139 : decode cX1_passAsk 139 = .ok (.ldc2_w 90, 3) := by decide +kernel
theorem dX1_passAsk_142 : decode cX1_passAsk 142 = .ok (.lxor, 1) := by decide +kernel
theorem dX1_passAsk_143 : decode cX1_passAsk 143 = .ok (.land, 1) := by decide +kernel
theorem dX1_passAsk_144 : decode cX1_passAsk 144 = .ok (.lload 17, 2) := by decide +kernel
theorem dX1_passAsk_146 : decode cX1_passAsk 146 = .ok (.ldc2_w 90, 3) := by decide +kernel
theorem dX1_passAsk_149 : decode cX1_passAsk 149 = .ok (.lxor, 1) := by decide +kernel
theorem dX1_passAsk_150 : decode cX1_passAsk 150 = .ok (.land, 1) := by decide +kernel
theorem dX1_passAsk_151 : decode cX1_passAsk 151 = .ok (.putfield 95, 3) := by decide +kernel
theorem dX1_passAsk_154 : decode cX1_passAsk 154 = .ok (.lload 15, 2) := by decide +kernel
theorem dX1_passAsk_156 : decode cX1_passAsk 156 = .ok (.aload_n 0, 1) := by decide +kernel
theorem dX1_passAsk_157 : decode cX1_passAsk 157 = .ok (.getfield 92, 3) := by decide +kernel
theorem dX1_passAsk_160 : decode cX1_passAsk 160 = .ok (.lor, 1) := by decide +kernel
theorem dX1_passAsk_161 : decode cX1_passAsk 161 = .ok (.lstore 15, 2) := by decide +kernel
theorem dX1_passAsk_163 : decode cX1_passAsk 163 = .ok (.lload 17, 2) := by decide +kernel
theorem dX1_passAsk_165 : decode cX1_passAsk 165 = .ok (.aload_n 0, 1) := by decide +kernel
theorem dX1_passAsk_166 : decode cX1_passAsk 166 = .ok (.getfield 95, 3) := by decide +kernel
theorem dX1_passAsk_169 : decode cX1_passAsk 169 = .ok (.lor, 1) := by decide +kernel
theorem dX1_passAsk_170 : decode cX1_passAsk 170 = .ok (.lstore 17, 2) := by decide +kernel
theorem dX1_passAsk_172 : decode cX1_passAsk 172 = .ok (.aload_n 0, 1) := by decide +kernel
theorem dX1_passAsk_173 : decode cX1_passAsk 173 = .ok (.aload_n 0, 1) := by decide +kernel
theorem dX1_passAsk_174 : decode cX1_passAsk 174 = .ok (.getfield 35, 3) := by decide +kernel
theorem dX1_passAsk_177 : decode cX1_passAsk 177 = .ok (.iconst 1, 1) := by decide +kernel
theorem dX1_passAsk_178 : decode cX1_passAsk 178 = .ok (.isub, 1) := by decide +kernel
theorem dX1_passAsk_179 : decode cX1_passAsk 179 = .ok (.invokevirtual 98, 3) := by decide +kernel
theorem dX1_passAsk_182 : decode cX1_passAsk 182 = .ok (.aload_n 0, 1) := by decide +kernel
theorem dX1_passAsk_183 : decode cX1_passAsk 183 = .ok (.getfield 92, 3) := by decide +kernel
theorem dX1_passAsk_186 : decode cX1_passAsk 186 = .ok (.lstore 11, 2) := by decide +kernel
theorem dX1_passAsk_188 : decode cX1_passAsk 188 = .ok (.aload_n 0, 1) := by decide +kernel
theorem dX1_passAsk_189 : decode cX1_passAsk 189 = .ok (.getfield 95, 3) := by decide +kernel
theorem dX1_passAsk_192 : decode cX1_passAsk 192 = .ok (.lstore 13, 2) := by decide +kernel
theorem dX1_passAsk_194 : decode cX1_passAsk 194 = .ok (.aload_n 0, 1) := by decide +kernel
theorem dX1_passAsk_195 : decode cX1_passAsk 195 = .ok (.iconst 1, 1) := by decide +kernel
theorem dX1_passAsk_196 : decode cX1_passAsk 196 = .ok (.invokevirtual 98, 3) := by decide +kernel
theorem dX1_passAsk_199 : decode cX1_passAsk 199 = .ok (.lload 11, 2) := by decide +kernel
theorem dX1_passAsk_201 : decode cX1_passAsk 201 = .ok (.aload_n 0, 1) := by decide +kernel
theorem dX1_passAsk_202 : decode cX1_passAsk 202 = .ok (.getfield 92, 3) := by decide +kernel
theorem dX1_passAsk_205 : decode cX1_passAsk 205 = .ok (.lload_n 3, 1) := by decide +kernel
theorem dX1_passAsk_206 : decode cX1_passAsk 206 = .ok (.land, 1) := by decide +kernel
theorem dX1_passAsk_207 : decode cX1_passAsk 207 = .ok (.lor, 1) := by decide +kernel
theorem dX1_passAsk_208 : decode cX1_passAsk 208 = .ok (.lstore 11, 2) := by decide +kernel
theorem dX1_passAsk_210 : decode cX1_passAsk 210 = .ok (.lload 13, 2) := by decide +kernel
theorem dX1_passAsk_212 : decode cX1_passAsk 212 = .ok (.aload_n 0, 1) := by decide +kernel
theorem dX1_passAsk_213 : decode cX1_passAsk 213 = .ok (.getfield 95, 3) := by decide +kernel
theorem dX1_passAsk_216 : decode cX1_passAsk 216 = .ok (.lload 5, 2) := by decide +kernel
theorem dX1_passAsk_218 : decode cX1_passAsk 218 = .ok (.land, 1) := by decide +kernel
theorem dX1_passAsk_219 : decode cX1_passAsk 219 = .ok (.lor, 1) := by decide +kernel
theorem dX1_passAsk_220 : decode cX1_passAsk 220 = .ok (.lstore 13, 2) := by decide +kernel
theorem dX1_passAsk_222 : decode cX1_passAsk 222 = .ok (.aload_n 0, 1) := by decide +kernel
theorem dX1_passAsk_223 : decode cX1_passAsk 223 = .ok (.getfield 92, 3) := by decide +kernel
theorem dX1_passAsk_226 : decode cX1_passAsk 226 = .ok (.lload_n 3, 1) := by decide +kernel
theorem dX1_passAsk_227 : decode cX1_passAsk 227 = .ok (.ldc2_w 90, 3) := by decide +kernel
theorem dX1_passAsk_230 : decode cX1_passAsk 230 = .ok (.lxor, 1) := by decide +kernel
theorem dX1_passAsk_231 : decode cX1_passAsk 231 = .ok (.land, 1) := by decide +kernel
theorem dX1_passAsk_232 : decode cX1_passAsk 232 = .ok (.lstore 7, 2) := by decide +kernel
theorem dX1_passAsk_234 : decode cX1_passAsk 234 = .ok (.aload_n 0, 1) := by decide +kernel
theorem dX1_passAsk_235 : decode cX1_passAsk 235 = .ok (.getfield 95, 3) := by decide +kernel
theorem dX1_passAsk_238 : decode cX1_passAsk 238 = .ok (.lload 5, 2) := by decide +kernel
theorem dX1_passAsk_240 : decode cX1_passAsk 240 = .ok (.ldc2_w 90, 3) := by decide +kernel
theorem dX1_passAsk_243 : decode cX1_passAsk 243 = .ok (.lxor, 1) := by decide +kernel
theorem dX1_passAsk_244 : decode cX1_passAsk 244 = .ok (.land, 1) := by decide +kernel
theorem dX1_passAsk_245 : decode cX1_passAsk 245 = .ok (.lstore 9, 2) := by decide +kernel
theorem dX1_passAsk_247 : decode cX1_passAsk 247 = .ok (.iinc 19 1, 3) := by decide +kernel
theorem dX1_passAsk_250 : decode cX1_passAsk 250 = .ok (.goto (-194), 3) := by decide +kernel
theorem dX1_passAsk_253 : decode cX1_passAsk 253 = .ok (.return_, 1) := by decide +kernel
theorem dX1_passTick_0 : decode cX1_passTick 0 = .ok (.iconst 0, 1) := by decide +kernel
theorem dX1_passTick_1 : decode cX1_passTick 1 = .ok (.istore_n 2, 1) := by decide +kernel
theorem dX1_passTick_2 : decode cX1_passTick 2 = .ok (.iload_n 2, 1) := by decide +kernel
theorem dX1_passTick_3 : decode cX1_passTick 3 = .ok (.iload_n 1, 1) := by decide +kernel
theorem dX1_passTick_4 : decode cX1_passTick 4 = .ok (.if_icmp .gt 57, 3) := by decide +kernel
theorem dX1_passTick_7 : decode cX1_passTick 7 = .ok (.aload_n 0, 1) := by decide +kernel
theorem dX1_passTick_8 : decode cX1_passTick 8 = .ok (.aload_n 0, 1) := by decide +kernel
theorem dX1_passTick_9 : decode cX1_passTick 9 = .ok (.getfield 18, 3) := by decide +kernel
theorem dX1_passTick_12 : decode cX1_passTick 12 = .ok (.iload_n 2, 1) := by decide +kernel
theorem dX1_passTick_13 : decode cX1_passTick 13 = .ok (.laload, 1) := by decide +kernel
theorem dX1_passTick_14 : decode cX1_passTick 14 = .ok (.putfield 92, 3) := by decide +kernel
theorem dX1_passTick_17 : decode cX1_passTick 17 = .ok (.aload_n 0, 1) := by decide +kernel
theorem dX1_passTick_18 : decode cX1_passTick 18 = .ok (.aload_n 0, 1) := by decide +kernel
theorem dX1_passTick_19 : decode cX1_passTick 19 = .ok (.getfield 22, 3) := by decide +kernel
theorem dX1_passTick_22 : decode cX1_passTick 22 = .ok (.iload_n 2, 1) := by decide +kernel
theorem dX1_passTick_23 : decode cX1_passTick 23 = .ok (.laload, 1) := by decide +kernel
theorem dX1_passTick_24 : decode cX1_passTick 24 = .ok (.putfield 95, 3) := by decide +kernel
theorem dX1_passTick_27 : decode cX1_passTick 27 = .ok (.aload_n 0, 1) := by decide +kernel
theorem dX1_passTick_28 : decode cX1_passTick 28 = .ok (.aload_n 0, 1) := by decide +kernel
theorem dX1_passTick_29 : decode cX1_passTick 29 = .ok (.getfield 35, 3) := by decide +kernel
theorem dX1_passTick_32 : decode cX1_passTick 32 = .ok (.invokevirtual 98, 3) := by decide +kernel
theorem dX1_passTick_35 : decode cX1_passTick 35 = .ok (.aload_n 0, 1) := by decide +kernel
theorem dX1_passTick_36 : decode cX1_passTick 36 = .ok (.getfield 18, 3) := by decide +kernel
theorem dX1_passTick_39 : decode cX1_passTick 39 = .ok (.iload_n 2, 1) := by decide +kernel
theorem dX1_passTick_40 : decode cX1_passTick 40 = .ok (.aload_n 0, 1) := by decide +kernel
theorem dX1_passTick_41 : decode cX1_passTick 41 = .ok (.getfield 92, 3) := by decide +kernel
theorem dX1_passTick_44 : decode cX1_passTick 44 = .ok (.lastore, 1) := by decide +kernel
theorem dX1_passTick_45 : decode cX1_passTick 45 = .ok (.aload_n 0, 1) := by decide +kernel
theorem dX1_passTick_46 : decode cX1_passTick 46 = .ok (.getfield 22, 3) := by decide +kernel
theorem dX1_passTick_49 : decode cX1_passTick 49 = .ok (.iload_n 2, 1) := by decide +kernel
theorem dX1_passTick_50 : decode cX1_passTick 50 = .ok (.aload_n 0, 1) := by decide +kernel
theorem dX1_passTick_51 : decode cX1_passTick 51 = .ok (.getfield 95, 3) := by decide +kernel
theorem dX1_passTick_54 : decode cX1_passTick 54 = .ok (.lastore, 1) := by decide +kernel
theorem dX1_passTick_55 : decode cX1_passTick 55 = .ok (.iinc 2 1, 3) := by decide +kernel
theorem dX1_passTick_58 : decode cX1_passTick 58 = .ok (.goto (-56), 3) := by decide +kernel
theorem dX1_passTick_61 : decode cX1_passTick 61 = .ok (.return_, 1) := by decide +kernel
theorem dX1_dropDearer_0 : decode cX1_dropDearer 0 = .ok (.lconst 0, 1) := by decide +kernel
theorem dX1_dropDearer_1 : decode cX1_dropDearer 1 = .ok (.lstore_n 2, 1) := by decide +kernel
theorem dX1_dropDearer_2 : decode cX1_dropDearer 2 = .ok (.lconst 0, 1) := by decide +kernel
theorem dX1_dropDearer_3 : decode cX1_dropDearer 3 = .ok (.lstore 4, 2) := by decide +kernel
theorem dX1_dropDearer_5 : decode cX1_dropDearer 5 = .ok (.iconst 0, 1) := by decide +kernel
theorem dX1_dropDearer_6 : decode cX1_dropDearer 6 = .ok (.istore 6, 2) := by decide +kernel
theorem dX1_dropDearer_8 : decode cX1_dropDearer 8 = .ok (.iload 6, 2) := by decide +kernel
theorem dX1_dropDearer_10 : decode cX1_dropDearer 10 = .ok (.iload_n 1, 1) := by decide +kernel
theorem dX1_dropDearer_11 : decode cX1_dropDearer 11 = .ok (.if_icmp .gt 62, 3) := by decide +kernel
theorem dX1_dropDearer_14 : decode cX1_dropDearer 14 = .ok (.aload_n 0, 1) := by decide +kernel
theorem dX1_dropDearer_15 : decode cX1_dropDearer 15 = .ok (.getfield 18, 3) := by decide +kernel
theorem dX1_dropDearer_18 : decode cX1_dropDearer 18 = .ok (.iload 6, 2) := by decide +kernel
theorem dX1_dropDearer_20 : decode cX1_dropDearer 20 = .ok (.dup2, 1) := by decide +kernel
theorem dX1_dropDearer_21 : decode cX1_dropDearer 21 = .ok (.laload, 1) := by decide +kernel
theorem dX1_dropDearer_22 : decode cX1_dropDearer 22 = .ok (.lload_n 2, 1) := by decide +kernel
theorem dX1_dropDearer_23 : decode cX1_dropDearer 23 = .ok (.ldc2_w 90, 3) := by decide +kernel
theorem dX1_dropDearer_26 : decode cX1_dropDearer 26 = .ok (.lxor, 1) := by decide +kernel
theorem dX1_dropDearer_27 : decode cX1_dropDearer 27 = .ok (.land, 1) := by decide +kernel
theorem dX1_dropDearer_28 : decode cX1_dropDearer 28 = .ok (.lastore, 1) := by decide +kernel
theorem dX1_dropDearer_29 : decode cX1_dropDearer 29 = .ok (.aload_n 0, 1) := by decide +kernel
theorem dX1_dropDearer_30 : decode cX1_dropDearer 30 = .ok (.getfield 22, 3) := by decide +kernel
theorem dX1_dropDearer_33 : decode cX1_dropDearer 33 = .ok (.iload 6, 2) := by decide +kernel
theorem dX1_dropDearer_35 : decode cX1_dropDearer 35 = .ok (.dup2, 1) := by decide +kernel
theorem dX1_dropDearer_36 : decode cX1_dropDearer 36 = .ok (.laload, 1) := by decide +kernel
theorem dX1_dropDearer_37 : decode cX1_dropDearer 37 = .ok (.lload 4, 2) := by decide +kernel
theorem dX1_dropDearer_39 : decode cX1_dropDearer 39 = .ok (.ldc2_w 90, 3) := by decide +kernel
theorem dX1_dropDearer_42 : decode cX1_dropDearer 42 = .ok (.lxor, 1) := by decide +kernel
theorem dX1_dropDearer_43 : decode cX1_dropDearer 43 = .ok (.land, 1) := by decide +kernel
theorem dX1_dropDearer_44 : decode cX1_dropDearer 44 = .ok (.lastore, 1) := by decide +kernel
theorem dX1_dropDearer_45 : decode cX1_dropDearer 45 = .ok (.lload_n 2, 1) := by decide +kernel
theorem dX1_dropDearer_46 : decode cX1_dropDearer 46 = .ok (.aload_n 0, 1) := by decide +kernel
theorem dX1_dropDearer_47 : decode cX1_dropDearer 47 = .ok (.getfield 18, 3) := by decide +kernel
theorem dX1_dropDearer_50 : decode cX1_dropDearer 50 = .ok (.iload 6, 2) := by decide +kernel
theorem dX1_dropDearer_52 : decode cX1_dropDearer 52 = .ok (.laload, 1) := by decide +kernel
theorem dX1_dropDearer_53 : decode cX1_dropDearer 53 = .ok (.lor, 1) := by decide +kernel
theorem dX1_dropDearer_54 : decode cX1_dropDearer 54 = .ok (.lstore_n 2, 1) := by decide +kernel
theorem dX1_dropDearer_55 : decode cX1_dropDearer 55 = .ok (.lload 4, 2) := by decide +kernel
theorem dX1_dropDearer_57 : decode cX1_dropDearer 57 = .ok (.aload_n 0, 1) := by decide +kernel
theorem dX1_dropDearer_58 : decode cX1_dropDearer 58 = .ok (.getfield 22, 3) := by decide +kernel
theorem dX1_dropDearer_61 : decode cX1_dropDearer 61 = .ok (.iload 6, 2) := by decide +kernel
theorem dX1_dropDearer_63 : decode cX1_dropDearer 63 = .ok (.laload, 1) := by decide +kernel
theorem dX1_dropDearer_64 : decode cX1_dropDearer 64 = .ok (.lor, 1) := by decide +kernel
theorem dX1_dropDearer_65 : decode cX1_dropDearer 65 = .ok (.lstore 4, 2) := by decide +kernel
theorem dX1_dropDearer_67 : decode cX1_dropDearer 67 = .ok (.iinc 6 1, 3) := by decide +kernel
theorem dX1_dropDearer_70 : decode cX1_dropDearer 70 = .ok (.goto (-62), 3) := by decide +kernel
theorem dX1_dropDearer_73 : decode cX1_dropDearer 73 = .ok (.return_, 1) := by decide +kernel
theorem dX1_cheapest_0 : decode cX1_cheapest 0 = .ok (.iconst 0, 1) := by decide +kernel
theorem dX1_cheapest_1 : decode cX1_cheapest 1 = .ok (.istore_n 2, 1) := by decide +kernel
theorem dX1_cheapest_2 : decode cX1_cheapest 2 = .ok (.iload_n 2, 1) := by decide +kernel
theorem dX1_cheapest_3 : decode cX1_cheapest 3 = .ok (.iload_n 1, 1) := by decide +kernel
theorem dX1_cheapest_4 : decode cX1_cheapest 4 = .ok (.if_icmp .ge 27, 3) := by decide +kernel
theorem dX1_cheapest_7 : decode cX1_cheapest 7 = .ok (.aload_n 0, 1) := by decide +kernel
theorem dX1_cheapest_8 : decode cX1_cheapest 8 = .ok (.getfield 18, 3) := by decide +kernel
theorem dX1_cheapest_11 : decode cX1_cheapest 11 = .ok (.iload_n 2, 1) := by decide +kernel
theorem dX1_cheapest_12 : decode cX1_cheapest 12 = .ok (.laload, 1) := by decide +kernel
theorem dX1_cheapest_13 : decode cX1_cheapest 13 = .ok (.aload_n 0, 1) := by decide +kernel
theorem dX1_cheapest_14 : decode cX1_cheapest 14 = .ok (.getfield 22, 3) := by decide +kernel
theorem dX1_cheapest_17 : decode cX1_cheapest 17 = .ok (.iload_n 2, 1) := by decide +kernel
theorem dX1_cheapest_18 : decode cX1_cheapest 18 = .ok (.laload, 1) := by decide +kernel
theorem dX1_cheapest_19 : decode cX1_cheapest 19 = .ok (.lor, 1) := by decide +kernel
theorem dX1_cheapest_20 : decode cX1_cheapest 20 = .ok (.lconst 0, 1) := by decide +kernel
theorem dX1_cheapest_21 : decode cX1_cheapest 21 = .ok (.lcmp, 1) := by decide +kernel
theorem dX1_cheapest_22 : decode cX1_cheapest 22 = .ok (.ifCond .ne 9, 3) := by decide +kernel
theorem dX1_cheapest_25 : decode cX1_cheapest 25 = .ok (.iinc 2 1, 3) := by decide +kernel
theorem dX1_cheapest_28 : decode cX1_cheapest 28 = .ok (.goto (-26), 3) := by decide +kernel
theorem dX1_cheapest_31 : decode cX1_cheapest 31 = .ok (.iload_n 2, 1) := by decide +kernel
theorem dX1_cheapest_32 : decode cX1_cheapest 32 = .ok (.ireturn, 1) := by decide +kernel
theorem dX1_serveUpTo_0 : decode cX1_serveUpTo 0 = .ok (.iconst 0, 1) := by decide +kernel
theorem dX1_serveUpTo_1 : decode cX1_serveUpTo 1 = .ok (.istore_n 2, 1) := by decide +kernel
theorem dX1_serveUpTo_2 : decode cX1_serveUpTo 2 = .ok (.iload_n 2, 1) := by decide +kernel
theorem dX1_serveUpTo_3 : decode cX1_serveUpTo 3 = .ok (.iload_n 1, 1) := by decide +kernel
theorem dX1_serveUpTo_4 : decode cX1_serveUpTo 4 = .ok (.if_icmp .ge 27, 3) := by decide +kernel
theorem dX1_serveUpTo_7 : decode cX1_serveUpTo 7 = .ok (.aload_n 0, 1) := by decide +kernel
theorem dX1_serveUpTo_8 : decode cX1_serveUpTo 8 = .ok (.getfield 92, 3) := by decide +kernel
theorem dX1_serveUpTo_11 : decode cX1_serveUpTo 11 = .ok (.aload_n 0, 1) := by decide +kernel
theorem dX1_serveUpTo_12 : decode cX1_serveUpTo 12 = .ok (.getfield 95, 3) := by decide +kernel
theorem dX1_serveUpTo_15 : decode cX1_serveUpTo 15 = .ok (.lor, 1) := by decide +kernel
theorem dX1_serveUpTo_16 : decode cX1_serveUpTo 16 = .ok (.lconst 0, 1) := by decide +kernel
theorem dX1_serveUpTo_17 : decode cX1_serveUpTo 17 = .ok (.lcmp, 1) := by decide +kernel
theorem dX1_serveUpTo_18 : decode cX1_serveUpTo 18 = .ok (.ifCond .eq 13, 3) := by decide +kernel
theorem dX1_serveUpTo_21 : decode cX1_serveUpTo 21 = .ok (.aload_n 0, 1) := by decide +kernel
theorem dX1_serveUpTo_22 : decode cX1_serveUpTo 22 = .ok (.invokevirtual 101, 3) := by decide +kernel
theorem dX1_serveUpTo_25 : decode cX1_serveUpTo 25 = .ok (.iinc 2 1, 3) := by decide +kernel
theorem dX1_serveUpTo_28 : decode cX1_serveUpTo 28 = .ok (.goto (-26), 3) := by decide +kernel
theorem dX1_serveUpTo_31 : decode cX1_serveUpTo 31 = .ok (.return_, 1) := by decide +kernel
theorem dX1_serveOneOrNone_0 : decode cX1_serveOneOrNone 0 = .ok (.aload_n 0, 1) := by decide +kernel
theorem dX1_serveOneOrNone_1 : decode cX1_serveOneOrNone 1 = .ok (.getfield 92, 3) := by decide +kernel
theorem dX1_serveOneOrNone_4 : decode cX1_serveOneOrNone 4 = .ok (.aload_n 0, 1) := by decide +kernel
theorem dX1_serveOneOrNone_5 : decode cX1_serveOneOrNone 5 = .ok (.getfield 43, 3) := by decide +kernel
theorem dX1_serveOneOrNone_8 : decode cX1_serveOneOrNone 8 = .ok (.land, 1) := by decide +kernel
theorem dX1_serveOneOrNone_9 : decode cX1_serveOneOrNone 9 = .ok (.lstore_n 1, 1) := by decide +kernel
theorem dX1_serveOneOrNone_10 : decode cX1_serveOneOrNone 10 = .ok (.aload_n 0, 1) := by decide +kernel
theorem dX1_serveOneOrNone_11 : decode cX1_serveOneOrNone 11 = .ok (.getfield 95, 3) := by decide +kernel
theorem dX1_serveOneOrNone_14 : decode cX1_serveOneOrNone 14 = .ok (.aload_n 0, 1) := by decide +kernel
theorem dX1_serveOneOrNone_15 : decode cX1_serveOneOrNone 15 = .ok (.getfield 47, 3) := by decide +kernel
theorem dX1_serveOneOrNone_18 : decode cX1_serveOneOrNone 18 = .ok (.land, 1) := by decide +kernel
theorem dX1_serveOneOrNone_19 : decode cX1_serveOneOrNone 19 = .ok (.lstore_n 3, 1) := by decide +kernel
theorem dX1_serveOneOrNone_20 : decode cX1_serveOneOrNone 20 = .ok (.aload_n 0, 1) := by decide +kernel
theorem dX1_serveOneOrNone_21 : decode cX1_serveOneOrNone 21 = .ok (.getfield 92, 3) := by decide +kernel
theorem dX1_serveOneOrNone_24 : decode cX1_serveOneOrNone 24 = .ok (.aload_n 0, 1) := by decide +kernel
theorem dX1_serveOneOrNone_25 : decode cX1_serveOneOrNone 25 = .ok (.getfield 43, 3) := by decide +kernel
theorem dX1_serveOneOrNone_28 : decode cX1_serveOneOrNone 28 = .ok (.ldc2_w 90, 3) := by decide +kernel
theorem dX1_serveOneOrNone_31 : decode cX1_serveOneOrNone 31 = .ok (.lxor, 1) := by decide +kernel
theorem dX1_serveOneOrNone_32 : decode cX1_serveOneOrNone 32 = .ok (.land, 1) := by decide +kernel
theorem dX1_serveOneOrNone_33 : decode cX1_serveOneOrNone 33 = .ok (.lload_n 3, 1) := by decide +kernel
theorem dX1_serveOneOrNone_34 : decode cX1_serveOneOrNone 34 = .ok (.lor, 1) := by decide +kernel
theorem dX1_serveOneOrNone_35 : decode cX1_serveOneOrNone 35 = .ok (.lstore 5, 2) := by decide +kernel
theorem dX1_serveOneOrNone_37 : decode cX1_serveOneOrNone 37 = .ok (.aload_n 0, 1) := by decide +kernel
theorem dX1_serveOneOrNone_38 : decode cX1_serveOneOrNone 38 = .ok (.getfield 95, 3) := by decide +kernel
theorem dX1_serveOneOrNone_41 : decode cX1_serveOneOrNone 41 = .ok (.aload_n 0, 1) := by decide +kernel
theorem dX1_serveOneOrNone_42 : decode cX1_serveOneOrNone 42 = .ok (.getfield 47, 3) := by decide +kernel
theorem dX1_serveOneOrNone_45 : decode cX1_serveOneOrNone 45 = .ok (.ldc2_w 90, 3) := by decide +kernel
theorem dX1_serveOneOrNone_48 : decode cX1_serveOneOrNone 48 = .ok (.lxor, 1) := by decide +kernel
theorem dX1_serveOneOrNone_49 : decode cX1_serveOneOrNone 49 = .ok (.land, 1) := by decide +kernel
theorem dX1_serveOneOrNone_50 : decode cX1_serveOneOrNone 50 = .ok (.lstore 7, 2) := by decide +kernel
theorem dX1_serveOneOrNone_52 : decode cX1_serveOneOrNone 52 = .ok (.iconst 0, 1) := by decide +kernel
theorem dX1_serveOneOrNone_53 : decode cX1_serveOneOrNone 53 = .ok (.istore 9, 2) := by decide +kernel
theorem dX1_serveOneOrNone_55 : decode cX1_serveOneOrNone 55 = .ok (.iload 9, 2) := by decide +kernel
theorem dX1_serveOneOrNone_57 : decode cX1_serveOneOrNone 57 = .ok (.bipush 6, 2) := by decide +kernel
theorem dX1_serveOneOrNone_59 : decode cX1_serveOneOrNone 59 = .ok (.if_icmp .ge 45, 3) := by decide +kernel
theorem dX1_serveOneOrNone_62 : decode cX1_serveOneOrNone 62 = .ok (.lload 5, 2) := by decide +kernel
theorem dX1_serveOneOrNone_64 : decode cX1_serveOneOrNone 64 = .ok (.lload_n 1, 1) := by decide +kernel
theorem dX1_serveOneOrNone_65 : decode cX1_serveOneOrNone 65 = .ok (.getstatic 87, 3) := by decide +kernel
theorem dX1_serveOneOrNone_68 : decode cX1_serveOneOrNone 68 = .ok (.iload 9, 2) := by decide +kernel
theorem dX1_serveOneOrNone_70 : decode cX1_serveOneOrNone 70 = .ok (.laload, 1) := by decide +kernel
theorem dX1_serveOneOrNone_71 : decode cX1_serveOneOrNone 71 = .ok (.land, 1) := by decide +kernel
theorem dX1_serveOneOrNone_72 : decode cX1_serveOneOrNone 72 = .ok (.iconst 1, 1) := by decide +kernel
theorem dX1_serveOneOrNone_73 : decode cX1_serveOneOrNone 73 = .ok (.iload 9, 2) := by decide +kernel
theorem dX1_serveOneOrNone_75 : decode cX1_serveOneOrNone 75 = .ok (.ishl, 1) := by decide +kernel
theorem dX1_serveOneOrNone_76 : decode cX1_serveOneOrNone 76 = .ok (.lushr, 1) := by decide +kernel
theorem dX1_serveOneOrNone_77 : decode cX1_serveOneOrNone 77 = .ok (.lor, 1) := by decide +kernel
theorem dX1_serveOneOrNone_78 : decode cX1_serveOneOrNone 78 = .ok (.lstore 5, 2) := by decide +kernel
theorem dX1_serveOneOrNone_80 : decode cX1_serveOneOrNone 80 = .ok (.lload 7, 2) := by decide +kernel
theorem dX1_serveOneOrNone_82 : decode cX1_serveOneOrNone 82 = .ok (.lload_n 3, 1) := by decide +kernel
theorem dX1_serveOneOrNone_83 : decode cX1_serveOneOrNone 83 = .ok (.getstatic 87, 3) := by decide +kernel
theorem dX1_serveOneOrNone_86 : decode cX1_serveOneOrNone 86 = .ok (.iload 9, 2) := by decide +kernel
theorem dX1_serveOneOrNone_88 : decode cX1_serveOneOrNone 88 = .ok (.laload, 1) := by decide +kernel
theorem dX1_serveOneOrNone_89 : decode cX1_serveOneOrNone 89 = .ok (.land, 1) := by decide +kernel
theorem dX1_serveOneOrNone_90 : decode cX1_serveOneOrNone 90 = .ok (.iconst 1, 1) := by decide +kernel
theorem dX1_serveOneOrNone_91 : decode cX1_serveOneOrNone 91 = .ok (.iload 9, 2) := by decide +kernel
theorem dX1_serveOneOrNone_93 : decode cX1_serveOneOrNone 93 = .ok (.ishl, 1) := by decide +kernel
theorem dX1_serveOneOrNone_94 : decode cX1_serveOneOrNone 94 = .ok (.lushr, 1) := by decide +kernel
theorem dX1_serveOneOrNone_95 : decode cX1_serveOneOrNone 95 = .ok (.lor, 1) := by decide +kernel
theorem dX1_serveOneOrNone_96 : decode cX1_serveOneOrNone 96 = .ok (.lstore 7, 2) := by decide +kernel
theorem dX1_serveOneOrNone_98 : decode cX1_serveOneOrNone 98 = .ok (.iinc 9 1, 3) := by decide +kernel
theorem dX1_serveOneOrNone_101 : decode cX1_serveOneOrNone 101 = .ok (.goto (-46), 3) := by decide +kernel
theorem dX1_serveOneOrNone_104 : decode cX1_serveOneOrNone 104 = .ok (.iconst 0, 1) := by decide +kernel
theorem dX1_serveOneOrNone_105 : decode cX1_serveOneOrNone 105 = .ok (.istore 9, 2) := by decide +kernel
theorem dX1_serveOneOrNone_107 : decode cX1_serveOneOrNone 107 = .ok (.iload 9, 2) := by decide +kernel
theorem dX1_serveOneOrNone_109 : decode cX1_serveOneOrNone 109 = .ok (.bipush 6, 2) := by decide +kernel
theorem dX1_serveOneOrNone_111 : decode cX1_serveOneOrNone 111 = .ok (.if_icmp .ge 63, 3) := by decide +kernel
theorem dX1_serveOneOrNone_114 : decode cX1_serveOneOrNone 114 = .ok (.aload_n 0, 1) := by decide +kernel
end
section
theorem dX1_serveOneOrNone_115 : decode cX1_serveOneOrNone 115 = .ok (.dup, 1) := by decide +kernel
theorem dX1_serveOneOrNone_116 : decode cX1_serveOneOrNone 116 = .ok (.getfield 92, 3) := by decide +kernel
theorem dX1_serveOneOrNone_119 : decode cX1_serveOneOrNone 119 = .ok (.lload 5, 2) := by decide +kernel
theorem dX1_serveOneOrNone_121 : decode cX1_serveOneOrNone 121 = .ok (.getstatic 87, 3) := by decide +kernel
theorem dX1_serveOneOrNone_124 : decode cX1_serveOneOrNone 124 = .ok (.iload 9, 2) := by decide +kernel
theorem dX1_serveOneOrNone_126 : decode cX1_serveOneOrNone 126 = .ok (.laload, 1) := by decide +kernel
theorem dX1_serveOneOrNone_127 : decode cX1_serveOneOrNone 127 = .ok (.ldc2_w 90, 3) := by decide +kernel
theorem dX1_serveOneOrNone_130 : decode cX1_serveOneOrNone 130 = .ok (.lxor, 1) := by decide +kernel
theorem dX1_serveOneOrNone_131 : decode cX1_serveOneOrNone 131 = .ok (.land, 1) := by decide +kernel
theorem dX1_serveOneOrNone_132 : decode cX1_serveOneOrNone 132 = .ok (.iconst 1, 1) := by decide +kernel
theorem dX1_serveOneOrNone_133 : decode cX1_serveOneOrNone 133 = .ok (.iload 9, 2) := by decide +kernel
theorem dX1_serveOneOrNone_135 : decode cX1_serveOneOrNone 135 = .ok (.ishl, 1) := by decide +kernel
theorem dX1_serveOneOrNone_136 : decode cX1_serveOneOrNone 136 = .ok (.lshl, 1) := by decide +kernel
theorem dX1_serveOneOrNone_137 : decode cX1_serveOneOrNone 137 = .ok (.lor, 1) := by decide +kernel
theorem dX1_serveOneOrNone_138 : decode cX1_serveOneOrNone 138 = .ok (.putfield 92, 3) := by decide +kernel
theorem dX1_serveOneOrNone_141 : decode cX1_serveOneOrNone 141 = .ok (.aload_n 0, 1) := by decide +kernel
theorem dX1_serveOneOrNone_142 : decode cX1_serveOneOrNone 142 = .ok (.dup, 1) := by decide +kernel
theorem dX1_serveOneOrNone_143 : decode cX1_serveOneOrNone 143 = .ok (.getfield 95, 3) := by decide +kernel
theorem dX1_serveOneOrNone_146 : decode cX1_serveOneOrNone 146 = .ok (.lload 7, 2) := by decide +kernel
theorem dX1_serveOneOrNone_148 : decode cX1_serveOneOrNone 148 = .ok (.getstatic 87, 3) := by decide +kernel
theorem dX1_serveOneOrNone_151 : decode cX1_serveOneOrNone 151 = .ok (.iload 9, 2) := by decide +kernel
theorem dX1_serveOneOrNone_153 : decode cX1_serveOneOrNone 153 = .ok (.laload, 1) := by decide +kernel
theorem dX1_serveOneOrNone_154 : decode cX1_serveOneOrNone 154 = .ok (.ldc2_w 90, 3) := by decide +kernel
theorem dX1_serveOneOrNone_157 : decode cX1_serveOneOrNone 157 = .ok (.lxor, 1) := by decide +kernel
theorem dX1_serveOneOrNone_158 : decode cX1_serveOneOrNone 158 = .ok (.land, 1) := by decide +kernel
theorem dX1_serveOneOrNone_159 : decode cX1_serveOneOrNone 159 = .ok (.iconst 1, 1) := by decide +kernel
theorem dX1_serveOneOrNone_160 : decode cX1_serveOneOrNone 160 = .ok (.iload 9, 2) := by decide +kernel
theorem dX1_serveOneOrNone_162 : decode cX1_serveOneOrNone 162 = .ok (.ishl, 1) := by decide +kernel
theorem dX1_serveOneOrNone_163 : decode cX1_serveOneOrNone 163 = .ok (.lshl, 1) := by decide +kernel
theorem dX1_serveOneOrNone_164 : decode cX1_serveOneOrNone 164 = .ok (.lor, 1) := by decide +kernel
theorem dX1_serveOneOrNone_165 : decode cX1_serveOneOrNone 165 = .ok (.putfield 95, 3) := by decide +kernel
theorem dX1_serveOneOrNone_168 : decode cX1_serveOneOrNone 168 = .ok (.iinc 9 1, 3) := by decide +kernel
theorem dX1_serveOneOrNone_171 : decode cX1_serveOneOrNone 171 = .ok (.goto (-64), 3) := by decide +kernel
theorem dX1_serveOneOrNone_174 : decode cX1_serveOneOrNone 174 = .ok (.aload_n 0, 1) := by decide +kernel
theorem dX1_serveOneOrNone_175 : decode cX1_serveOneOrNone 175 = .ok (.dup, 1) := by decide +kernel
theorem dX1_serveOneOrNone_176 : decode cX1_serveOneOrNone 176 = .ok (.getfield 95, 3) := by decide +kernel
theorem dX1_serveOneOrNone_179 : decode cX1_serveOneOrNone 179 = .ok (.lload 5, 2) := by decide +kernel
theorem dX1_serveOneOrNone_181 : decode cX1_serveOneOrNone 181 = .ok (.lor, 1) := by decide +kernel
theorem dX1_serveOneOrNone_182 : decode cX1_serveOneOrNone 182 = .ok (.putfield 95, 3) := by decide +kernel
theorem dX1_serveOneOrNone_185 : decode cX1_serveOneOrNone 185 = .ok (.return_, 1) := by decide +kernel
theorem dX2_init_0 : decode cX2_init 0 = .ok (.aload_n 0, 1) := by decide +kernel
theorem dX2_init_1 : decode cX2_init 1 = .ok (.invokespecial 3, 3) := by decide +kernel
theorem dX2_init_4 : decode cX2_init 4 = .ok (.aload_n 0, 1) := by decide +kernel
theorem dX2_init_5 : decode cX2_init 5 = .ok (.iconst 4, 1) := by decide +kernel
theorem dX2_init_6 : decode cX2_init 6 = .ok (.newarray .int, 2) := by decide +kernel
theorem dX2_init_8 : decode cX2_init 8 = .ok (.putfield 9, 3) := by decide +kernel
theorem dX2_init_11 : decode cX2_init 11 = .ok (.aload_n 0, 1) := by decide +kernel
theorem dX2_init_12 : decode cX2_init 12 = .ok (.iconst 0, 1) := by decide +kernel
theorem dX2_init_13 : decode cX2_init 13 = .ok (.putfield 15, 3) := by decide +kernel
theorem dX2_init_16 : decode cX2_init 16 = .ok (.aload_n 0, 1) := by decide +kernel
theorem dX2_init_17 : decode cX2_init 17 = .ok (.iload_n 1, 1) := by decide +kernel
theorem dX2_init_18 : decode cX2_init 18 = .ok (.newarray .int, 2) := by decide +kernel
theorem dX2_init_20 : decode cX2_init 20 = .ok (.putfield 19, 3) := by decide +kernel
theorem dX2_init_23 : decode cX2_init 23 = .ok (.aload_n 0, 1) := by decide +kernel
theorem dX2_init_24 : decode cX2_init 24 = .ok (.iload_n 1, 1) := by decide +kernel
theorem dX2_init_25 : decode cX2_init 25 = .ok (.newarray .int, 2) := by decide +kernel
theorem dX2_init_27 : decode cX2_init 27 = .ok (.putfield 22, 3) := by decide +kernel
theorem dX2_init_30 : decode cX2_init 30 = .ok (.aload_n 0, 1) := by decide +kernel
theorem dX2_init_31 : decode cX2_init 31 = .ok (.iload_n 1, 1) := by decide +kernel
theorem dX2_init_32 : decode cX2_init 32 = .ok (.newarray .int, 2) := by decide +kernel
theorem dX2_init_34 : decode cX2_init 34 = .ok (.putfield 25, 3) := by decide +kernel
theorem dX2_init_37 : decode cX2_init 37 = .ok (.return_, 1) := by decide +kernel
theorem dX2_empty_0 : decode cX2_empty 0 = .ok (.aload_n 0, 1) := by decide +kernel
theorem dX2_empty_1 : decode cX2_empty 1 = .ok (.iconst 0, 1) := by decide +kernel
theorem dX2_empty_2 : decode cX2_empty 2 = .ok (.putfield 15, 3) := by decide +kernel
theorem dX2_empty_5 : decode cX2_empty 5 = .ok (.aload_n 0, 1) := by decide +kernel
theorem dX2_empty_6 : decode cX2_empty 6 = .ok (.getfield 9, 3) := by decide +kernel
theorem dX2_empty_9 : decode cX2_empty 9 = .ok (.iconst 0, 1) := by decide +kernel
theorem dX2_empty_10 : decode cX2_empty 10 = .ok (.invokestatic 28, 3) := by decide +kernel
theorem dX2_empty_13 : decode cX2_empty 13 = .ok (.return_, 1) := by decide +kernel
theorem dX2_copyFrom_0 : decode cX2_copyFrom 0 = .ok (.aload_n 0, 1) := by decide +kernel
theorem dX2_copyFrom_1 : decode cX2_copyFrom 1 = .ok (.aload_n 1, 1) := by decide +kernel
theorem dX2_copyFrom_2 : decode cX2_copyFrom 2 = .ok (.getfield 15, 3) := by decide +kernel
theorem dX2_copyFrom_5 : decode cX2_copyFrom 5 = .ok (.putfield 15, 3) := by decide +kernel
theorem dX2_copyFrom_8 : decode cX2_copyFrom 8 = .ok (.aload_n 1, 1) := by decide +kernel
theorem dX2_copyFrom_9 : decode cX2_copyFrom 9 = .ok (.getfield 19, 3) := by decide +kernel
theorem dX2_copyFrom_12 : decode cX2_copyFrom 12 = .ok (.iconst 0, 1) := by decide +kernel
theorem dX2_copyFrom_13 : decode cX2_copyFrom 13 = .ok (.aload_n 0, 1) := by decide +kernel
theorem dX2_copyFrom_14 : decode cX2_copyFrom 14 = .ok (.getfield 19, 3) := by decide +kernel
theorem dX2_copyFrom_17 : decode cX2_copyFrom 17 = .ok (.iconst 0, 1) := by decide +kernel
theorem dX2_copyFrom_18 : decode cX2_copyFrom 18 = .ok (.aload_n 0, 1) := by decide +kernel
theorem dX2_copyFrom_19 : decode cX2_copyFrom 19 = .ok (.getfield 15, 3) := by decide +kernel
theorem dX2_copyFrom_22 : decode cX2_copyFrom 22 = .ok (.invokestatic 34, 3) := by decide +kernel
theorem dX2_copyFrom_25 : decode cX2_copyFrom 25 = .ok (.aload_n 1, 1) := by decide +kernel
theorem dX2_copyFrom_26 : decode cX2_copyFrom 26 = .ok (.getfield 22, 3) := by decide +kernel
theorem dX2_copyFrom_29 : decode cX2_copyFrom 29 = .ok (.iconst 0, 1) := by decide +kernel
theorem dX2_copyFrom_30 : decode cX2_copyFrom 30 = .ok (.aload_n 0, 1) := by decide +kernel
theorem dX2_copyFrom_31 : decode cX2_copyFrom 31 = .ok (.getfield 22, 3) := by decide +kernel
theorem dX2_copyFrom_34 : decode cX2_copyFrom 34 = .ok (.iconst 0, 1) := by decide +kernel
theorem dX2_copyFrom_35 : decode cX2_copyFrom 35 = .ok (.aload_n 0, 1) := by decide +kernel
theorem dX2_copyFrom_36 : decode cX2_copyFrom 36 = .ok (.getfield 15, 3) := by decide +kernel
theorem dX2_copyFrom_39 : decode cX2_copyFrom 39 = .ok (.invokestatic 34, 3) := by decide +kernel
theorem dX2_copyFrom_42 : decode cX2_copyFrom 42 = .ok (.aload_n 1, 1) := by decide +kernel
theorem dX2_copyFrom_43 : decode cX2_copyFrom 43 = .ok (.getfield 25, 3) := by decide +kernel
theorem dX2_copyFrom_46 : decode cX2_copyFrom 46 = .ok (.iconst 0, 1) := by decide +kernel
theorem dX2_copyFrom_47 : decode cX2_copyFrom 47 = .ok (.aload_n 0, 1) := by decide +kernel
theorem dX2_copyFrom_48 : decode cX2_copyFrom 48 = .ok (.getfield 25, 3) := by decide +kernel
theorem dX2_copyFrom_51 : decode cX2_copyFrom 51 = .ok (.iconst 0, 1) := by decide +kernel
theorem dX2_copyFrom_52 : decode cX2_copyFrom 52 = .ok (.aload_n 0, 1) := by decide +kernel
theorem dX2_copyFrom_53 : decode cX2_copyFrom 53 = .ok (.getfield 15, 3) := by decide +kernel
theorem dX2_copyFrom_56 : decode cX2_copyFrom 56 = .ok (.invokestatic 34, 3) := by decide +kernel
theorem dX2_copyFrom_59 : decode cX2_copyFrom 59 = .ok (.aload_n 1, 1) := by decide +kernel
theorem dX2_copyFrom_60 : decode cX2_copyFrom 60 = .ok (.getfield 9, 3) := by decide +kernel
theorem dX2_copyFrom_63 : decode cX2_copyFrom 63 = .ok (.iconst 0, 1) := by decide +kernel
theorem dX2_copyFrom_64 : decode cX2_copyFrom 64 = .ok (.aload_n 0, 1) := by decide +kernel
theorem dX2_copyFrom_65 : decode cX2_copyFrom 65 = .ok (.getfield 9, 3) := by decide +kernel
theorem dX2_copyFrom_68 : decode cX2_copyFrom 68 = .ok (.iconst 0, 1) := by decide +kernel
theorem dX2_copyFrom_69 : decode cX2_copyFrom 69 = .ok (.iconst 4, 1) := by decide +kernel
theorem dX2_copyFrom_70 : decode cX2_copyFrom 70 = .ok (.invokestatic 34, 3) := by decide +kernel
theorem dX2_copyFrom_73 : decode cX2_copyFrom 73 = .ok (.return_, 1) := by decide +kernel
theorem dX2_hasPlace_0 : decode cX2_hasPlace 0 = .ok (.aload_n 0, 1) := by decide +kernel
theorem dX2_hasPlace_1 : decode cX2_hasPlace 1 = .ok (.getfield 15, 3) := by decide +kernel
theorem dX2_hasPlace_4 : decode cX2_hasPlace 4 = .ok (.aload_n 0, 1) := by decide +kernel
theorem dX2_hasPlace_5 : decode cX2_hasPlace 5 = .ok (.getfield 19, 3) := by decide +kernel
theorem dX2_hasPlace_8 : decode cX2_hasPlace 8 = .ok (.arraylength, 1) := by decide +kernel
theorem dX2_hasPlace_9 : decode cX2_hasPlace 9 = .ok (.if_icmp .ge 7, 3) := by decide +kernel
theorem dX2_hasPlace_12 : decode cX2_hasPlace 12 = .ok (.iconst 1, 1) := by decide +kernel
theorem dX2_hasPlace_13 : decode cX2_hasPlace 13 = .ok (.goto 4, 3) := by decide +kernel
theorem dX2_hasPlace_16 : decode cX2_hasPlace 16 = .ok (.iconst 0, 1) := by decide +kernel
theorem dX2_hasPlace_17 : decode cX2_hasPlace 17 = .ok (.ireturn, 1) := by decide +kernel
theorem dX2_find_0 : decode cX2_find 0 = .ok (.iconst 0, 1) := by decide +kernel
theorem dX2_find_1 : decode cX2_find 1 = .ok (.istore_n 2, 1) := by decide +kernel
theorem dX2_find_2 : decode cX2_find 2 = .ok (.iload_n 2, 1) := by decide +kernel
theorem dX2_find_3 : decode cX2_find 3 = .ok (.aload_n 0, 1) := by decide +kernel
theorem dX2_find_4 : decode cX2_find 4 = .ok (.getfield 15, 3) := by decide +kernel
theorem dX2_find_7 : decode cX2_find 7 = .ok (.if_icmp .ge 21, 3) := by decide +kernel
theorem dX2_find_10 : decode cX2_find 10 = .ok (.aload_n 0, 1) := by decide +kernel
theorem dX2_find_11 : decode cX2_find 11 = .ok (.getfield 19, 3) := by decide +kernel
theorem dX2_find_14 : decode cX2_find 14 = .ok (.iload_n 2, 1) := by decide +kernel
theorem dX2_find_15 : decode cX2_find 15 = .ok (.iaload, 1) := by decide +kernel
theorem dX2_find_16 : decode cX2_find 16 = .ok (.iload_n 1, 1) := by decide +kernel
theorem dX2_find_17 : decode cX2_find 17 = .ok (.if_icmp .ne 5, 3) := by decide +kernel
theorem dX2_find_20 : decode cX2_find 20 = .ok (.iload_n 2, 1) := by decide +kernel
theorem dX2_find_21 : decode cX2_find 21 = .ok (.ireturn, 1) := by decide +kernel
theorem dX2_find_22 : decode cX2_find 22 = .ok (.iinc 2 1, 3) := by decide +kernel
theorem dX2_find_25 : decode cX2_find 25 = .ok (.goto (-23), 3) := by decide +kernel
theorem dX2_find_28 : decode cX2_find 28 = .ok (.iconst (-1), 1) := by decide +kernel
theorem dX2_find_29 : decode cX2_find 29 = .ok (.ireturn, 1) := by decide +kernel
theorem dX2_add_0 : decode cX2_add 0 = .ok (.aload_n 0, 1) := by decide +kernel
theorem dX2_add_1 : decode cX2_add 1 = .ok (.getfield 19, 3) := by decide +kernel
theorem dX2_add_4 : decode cX2_add 4 = .ok (.aload_n 0, 1) := by decide +kernel
theorem dX2_add_5 : decode cX2_add 5 = .ok (.getfield 15, 3) := by decide +kernel
theorem dX2_add_8 : decode cX2_add 8 = .ok (.iload_n 1, 1) := by decide +kernel
theorem dX2_add_9 : decode cX2_add 9 = .ok (.iastore, 1) := by decide +kernel
theorem dX2_add_10 : decode cX2_add 10 = .ok (.aload_n 0, 1) := by decide +kernel
theorem dX2_add_11 : decode cX2_add 11 = .ok (.getfield 22, 3) := by decide +kernel
theorem dX2_add_14 : decode cX2_add 14 = .ok (.aload_n 0, 1) := by decide +kernel
theorem dX2_add_15 : decode cX2_add 15 = .ok (.getfield 15, 3) := by decide +kernel
theorem dX2_add_18 : decode cX2_add 18 = .ok (.iload_n 2, 1) := by decide +kernel
theorem dX2_add_19 : decode cX2_add 19 = .ok (.iastore, 1) := by decide +kernel
theorem dX2_add_20 : decode cX2_add 20 = .ok (.aload_n 0, 1) := by decide +kernel
theorem dX2_add_21 : decode cX2_add 21 = .ok (.getfield 25, 3) := by decide +kernel
theorem dX2_add_24 : decode cX2_add 24 = .ok (.aload_n 0, 1) := by decide +kernel
theorem dX2_add_25 : decode cX2_add 25 = .ok (.getfield 15, 3) := by decide +kernel
theorem dX2_add_28 : decode cX2_add 28 = .ok (.iload_n 3, 1) := by decide +kernel
theorem dX2_add_29 : decode cX2_add 29 = .ok (.iastore, 1) := by decide +kernel
theorem dX2_add_30 : decode cX2_add 30 = .ok (.aload_n 0, 1) := by decide +kernel
theorem dX2_add_31 : decode cX2_add 31 = .ok (.dup, 1) := by decide +kernel
theorem dX2_add_32 : decode cX2_add 32 = .ok (.getfield 15, 3) := by decide +kernel
theorem dX2_add_35 : decode cX2_add 35 = .ok (.iconst 1, 1) := by decide +kernel
theorem dX2_add_36 : decode cX2_add 36 = .ok (.iadd, 1) := by decide +kernel
theorem dX2_add_37 : decode cX2_add 37 = .ok (.putfield 15, 3) := by decide +kernel
theorem dX2_add_40 : decode cX2_add 40 = .ok (.aload_n 0, 1) := by decide +kernel
theorem dX2_add_41 : decode cX2_add 41 = .ok (.getfield 9, 3) := by decide +kernel
theorem dX2_add_44 : decode cX2_add 44 = .ok (.iload_n 2, 1) := by decide +kernel
theorem dX2_add_45 : decode cX2_add 45 = .ok (.dup2, 1) := by decide +kernel
theorem dX2_add_46 : decode cX2_add 46 = .ok (.iaload, 1) := by decide +kernel
theorem dX2_add_47 : decode cX2_add 47 = .ok (.iconst 1, 1) := by decide +kernel
theorem dX2_add_48 : decode cX2_add 48 = .ok (.iadd, 1) := by decide +kernel
theorem dX2_add_49 : decode cX2_add 49 = .ok (.iastore, 1) := by decide +kernel
theorem dX2_add_50 : decode cX2_add 50 = .ok (.return_, 1) := by decide +kernel
theorem dX2_remove_0 : decode cX2_remove 0 = .ok (.aload_n 0, 1) := by decide +kernel
theorem dX2_remove_1 : decode cX2_remove 1 = .ok (.getfield 9, 3) := by decide +kernel
theorem dX2_remove_4 : decode cX2_remove 4 = .ok (.aload_n 0, 1) := by decide +kernel
theorem dX2_remove_5 : decode cX2_remove 5 = .ok (.getfield 22, 3) := by decide +kernel
theorem dX2_remove_8 : decode cX2_remove 8 = .ok (.iload_n 1, 1) := by decide +kernel
theorem dX2_remove_9 : decode cX2_remove 9 = .ok (.iaload, 1) := by decide +kernel
theorem dX2_remove_10 : decode cX2_remove 10 = .ok (.dup2, 1) := by decide +kernel
theorem dX2_remove_11 : decode cX2_remove 11 = .ok (.iaload, 1) := by decide +kernel
theorem dX2_remove_12 : decode cX2_remove 12 = .ok (.iconst 1, 1) := by decide +kernel
theorem dX2_remove_13 : decode cX2_remove 13 = .ok (.isub, 1) := by decide +kernel
theorem dX2_remove_14 : decode cX2_remove 14 = .ok (.iastore, 1) := by decide +kernel
theorem dX2_remove_15 : decode cX2_remove 15 = .ok (.aload_n 0, 1) := by decide +kernel
theorem dX2_remove_16 : decode cX2_remove 16 = .ok (.dup, 1) := by decide +kernel
theorem dX2_remove_17 : decode cX2_remove 17 = .ok (.getfield 15, 3) := by decide +kernel
theorem dX2_remove_20 : decode cX2_remove 20 = .ok (.iconst 1, 1) := by decide +kernel
theorem dX2_remove_21 : decode cX2_remove 21 = .ok (.isub, 1) := by decide +kernel
theorem dX2_remove_22 : decode cX2_remove 22 = .ok (.putfield 15, 3) := by decide +kernel
theorem dX2_remove_25 : decode cX2_remove 25 = .ok (.iload_n 1, 1) := by decide +kernel
theorem dX2_remove_26 : decode cX2_remove 26 = .ok (.istore_n 2, 1) := by decide +kernel
theorem dX2_remove_27 : decode cX2_remove 27 = .ok (.iload_n 2, 1) := by decide +kernel
theorem dX2_remove_28 : decode cX2_remove 28 = .ok (.aload_n 0, 1) := by decide +kernel
theorem dX2_remove_29 : decode cX2_remove 29 = .ok (.getfield 15, 3) := by decide +kernel
theorem dX2_remove_32 : decode cX2_remove 32 = .ok (.if_icmp .ge 51, 3) := by decide +kernel
theorem dX2_remove_35 : decode cX2_remove 35 = .ok (.aload_n 0, 1) := by decide +kernel
theorem dX2_remove_36 : decode cX2_remove 36 = .ok (.getfield 19, 3) := by decide +kernel
theorem dX2_remove_39 : decode cX2_remove 39 = .ok (.iload_n 2, 1) := by decide +kernel
theorem dX2_remove_40 : decode cX2_remove 40 = .ok (.aload_n 0, 1) := by decide +kernel
theorem dX2_remove_41 : decode cX2_remove 41 = .ok (.getfield 19, 3) := by decide +kernel
theorem dX2_remove_44 : decode cX2_remove 44 = .ok (.iload_n 2, 1) := by decide +kernel
theorem dX2_remove_45 : decode cX2_remove 45 = .ok (.iconst 1, 1) := by decide +kernel
theorem dX2_remove_46 : decode cX2_remove 46 = .ok (.iadd, 1) := by decide +kernel
theorem dX2_remove_47 : decode cX2_remove 47 = .ok (.iaload, 1) := by decide +kernel
theorem dX2_remove_48 : decode cX2_remove 48 = .ok (.iastore, 1) := by decide +kernel
theorem dX2_remove_49 : decode cX2_remove 49 = .ok (.aload_n 0, 1) := by decide +kernel
theorem dX2_remove_50 : decode cX2_remove 50 = .ok (.getfield 22, 3) := by decide +kernel
theorem dX2_remove_53 : decode cX2_remove 53 = .ok (.iload_n 2, 1) := by decide +kernel
theorem dX2_remove_54 : decode cX2_remove 54 = .ok (.aload_n 0, 1) := by decide +kernel
theorem dX2_remove_55 : decode cX2_remove 55 = .ok (.getfield 22, 3) := by decide +kernel
theorem dX2_remove_58 : decode cX2_remove 58 = .ok (.iload_n 2, 1) := by decide +kernel
theorem dX2_remove_59 : decode cX2_remove 59 = .ok (.iconst 1, 1) := by decide +kernel
theorem dX2_remove_60 : decode cX2_remove 60 = .ok (.iadd, 1) := by decide +kernel
theorem dX2_remove_61 : decode cX2_remove 61 = .ok (.iaload, 1) := by decide +kernel
theorem dX2_remove_62 : decode cX2_remove 62 = .ok (.iastore, 1) := by decide +kernel
theorem dX2_remove_63 : decode cX2_remove 63 = .ok (.aload_n 0, 1) := by decide +kernel
theorem dX2_remove_64 : decode cX2_remove 64 = .ok (.getfield 25, 3) := by decide +kernel
theorem dX2_remove_67 : decode cX2_remove 67 = .ok (.iload_n 2, 1) := by decide +kernel
theorem dX2_remove_68 : decode cX2_remove 68 = .ok (.aload_n 0, 1) := by decide +kernel
theorem dX2_remove_69 : decode cX2_remove 69 = .ok (.getfield 25, 3) := by decide +kernel
theorem dX2_remove_72 : decode cX2_remove 72 = .ok (.iload_n 2, 1) := by decide +kernel
theorem dX2_remove_73 : decode cX2_remove 73 = .ok (.iconst 1, 1) := by decide +kernel
theorem dX2_remove_74 : decode cX2_remove 74 = .ok (.iadd, 1) := by decide +kernel
theorem dX2_remove_75 : decode cX2_remove 75 = .ok (.iaload, 1) := by decide +kernel
theorem dX2_remove_76 : decode cX2_remove 76 = .ok (.iastore, 1) := by decide +kernel
theorem dX2_remove_77 : decode cX2_remove 77 = .ok (.iinc 2 1, 3) := by decide +kernel
theorem dX2_remove_80 : decode cX2_remove 80 = .ok (.goto (-53), 3) := by decide +kernel
theorem dX2_remove_83 : decode cX2_remove 83 = .ok (.return_, 1) := by decide +kernel
theorem dX2_nearest_0 : decode cX2_nearest 0 = .ok (.iconst (-1), 1) := by decide +kernel
theorem dX2_nearest_1 : decode cX2_nearest 1 = .ok (.istore_n 2, 1) := by decide +kernel
theorem dX2_nearest_2 : decode cX2_nearest 2 = .ok (.bipush 64, 2) := by decide +kernel
theorem dX2_nearest_4 : decode cX2_nearest 4 = .ok (.istore_n 3, 1) := by decide +kernel
theorem dX2_nearest_5 : decode cX2_nearest 5 = .ok (.iconst 0, 1) := by decide +kernel
theorem dX2_nearest_6 : decode cX2_nearest 6 = .ok (.istore 4, 2) := by decide +kernel
theorem dX2_nearest_8 : decode cX2_nearest 8 = .ok (.iload 4, 2) := by decide +kernel
theorem dX2_nearest_10 : decode cX2_nearest 10 = .ok (.aload_n 0, 1) := by decide +kernel
theorem dX2_nearest_11 : decode cX2_nearest 11 = .ok (.getfield 15, 3) := by decide +kernel
theorem dX2_nearest_14 : decode cX2_nearest 14 = .ok (.if_icmp .ge 62, 3) := by decide +kernel
theorem dX2_nearest_17 : decode cX2_nearest 17 = .ok (.aload_n 0, 1) := by decide +kernel
theorem dX2_nearest_18 : decode cX2_nearest 18 = .ok (.getfield 19, 3) := by decide +kernel
theorem dX2_nearest_21 : decode cX2_nearest 21 = .ok (.iload 4, 2) := by decide +kernel
theorem dX2_nearest_23 : decode cX2_nearest 23 = .ok (.iaload, 1) := by decide +kernel
theorem dX2_nearest_24 : decode cX2_nearest 24 = .ok (.iload_n 1, 1) := by decide +kernel
theorem dX2_nearest_25 : decode cX2_nearest 25 = .ok (.isub, 1) := by decide +kernel
theorem dX2_nearest_26 : decode cX2_nearest 26 = .ok (.invokestatic 40, 3) := by decide +kernel
theorem dX2_nearest_29 : decode cX2_nearest 29 = .ok (.istore 5, 2) := by decide +kernel
theorem dX2_nearest_31 : decode cX2_nearest 31 = .ok (.iload 5, 2) := by decide +kernel
theorem dX2_nearest_33 : decode cX2_nearest 33 = .ok (.iload_n 3, 1) := by decide +kernel
theorem dX2_nearest_34 : decode cX2_nearest 34 = .ok (.if_icmp .lt 30, 3) := by decide +kernel
theorem dX2_nearest_37 : decode cX2_nearest 37 = .ok (.iload 5, 2) := by decide +kernel
theorem dX2_nearest_39 : decode cX2_nearest 39 = .ok (.iload_n 3, 1) := by decide +kernel
theorem dX2_nearest_40 : decode cX2_nearest 40 = .ok (.if_icmp .ne 30, 3) := by decide +kernel
theorem dX2_nearest_43 : decode cX2_nearest 43 = .ok (.iload_n 2, 1) := by decide +kernel
theorem dX2_nearest_44 : decode cX2_nearest 44 = .ok (.iconst (-1), 1) := by decide +kernel
theorem dX2_nearest_45 : decode cX2_nearest 45 = .ok (.if_icmp .eq 25, 3) := by decide +kernel
theorem dX2_nearest_48 : decode cX2_nearest 48 = .ok (.aload_n 0, 1) := by decide +kernel
theorem dX2_nearest_49 : decode cX2_nearest 49 = .ok (.getfield 19, 3) := by decide +kernel
theorem dX2_nearest_52 : decode cX2_nearest 52 = .ok (.iload 4, 2) := by decide +kernel
theorem dX2_nearest_54 : decode cX2_nearest 54 = .ok (.iaload, 1) := by decide +kernel
theorem dX2_nearest_55 : decode cX2_nearest 55 = .ok (.aload_n 0, 1) := by decide +kernel
theorem dX2_nearest_56 : decode cX2_nearest 56 = .ok (.getfield 19, 3) := by decide +kernel
theorem dX2_nearest_59 : decode cX2_nearest 59 = .ok (.iload_n 2, 1) := by decide +kernel
theorem dX2_nearest_60 : decode cX2_nearest 60 = .ok (.iaload, 1) := by decide +kernel
theorem dX2_nearest_61 : decode cX2_nearest 61 = .ok (.if_icmp .ge 9, 3) := by decide +kernel
theorem dX2_nearest_64 : decode cX2_nearest 64 = .ok (.iload 4, 2) := by decide +kernel
theorem dX2_nearest_66 : decode cX2_nearest 66 = .ok (.istore_n 2, 1) := by decide +kernel
theorem dX2_nearest_67 : decode cX2_nearest 67 = .ok (.iload 5, 2) := by decide +kernel
theorem dX2_nearest_69 : decode cX2_nearest 69 = .ok (.istore_n 3, 1) := by decide +kernel
theorem dX2_nearest_70 : decode cX2_nearest 70 = .ok (.iinc 4 1, 3) := by decide +kernel
theorem dX2_nearest_73 : decode cX2_nearest 73 = .ok (.goto (-65), 3) := by decide +kernel
theorem dX2_nearest_76 : decode cX2_nearest 76 = .ok (.iload_n 2, 1) := by decide +kernel
theorem dX2_nearest_77 : decode cX2_nearest 77 = .ok (.ireturn, 1) := by decide +kernel
theorem dX3_init_0 : decode cX3_init 0 = .ok (.aload_n 0, 1) := by decide +kernel
theorem dX3_init_1 : decode cX3_init 1 = .ok (.invokespecial 3, 3) := by decide +kernel
theorem dX3_init_4 : decode cX3_init 4 = .ok (.aload_n 0, 1) := by decide +kernel
theorem dX3_init_5 : decode cX3_init 5 = .ok (.new 9, 3) := by decide +kernel
theorem dX3_init_8 : decode cX3_init 8 = .ok (.dup, 1) := by decide +kernel
theorem dX3_init_9 : decode cX3_init 9 = .ok (.bipush 12, 2) := by decide +kernel
theorem dX3_init_11 : decode cX3_init 11 = .ok (.invokespecial 11, 3) := by decide +kernel
theorem dX3_init_14 : decode cX3_init 14 = .ok (.putfield 14, 3) := by decide +kernel
theorem dX3_init_17 : decode cX3_init 17 = .ok (.aload_n 0, 1) := by decide +kernel
theorem dX3_init_18 : decode cX3_init 18 = .ok (.new 9, 3) := by decide +kernel
theorem dX3_init_21 : decode cX3_init 21 = .ok (.dup, 1) := by decide +kernel
theorem dX3_init_22 : decode cX3_init 22 = .ok (.bipush 16, 2) := by decide +kernel
theorem dX3_init_24 : decode cX3_init 24 = .ok (.invokespecial 11, 3) := by decide +kernel
theorem dX3_init_27 : decode cX3_init 27 = .ok (.putfield 20, 3) := by decide +kernel
theorem dX3_init_30 : decode cX3_init 30 = .ok (.aload_n 0, 1) := by decide +kernel
theorem dX3_init_31 : decode cX3_init 31 = .ok (.iconst 4, 1) := by decide +kernel
theorem dX3_init_32 : decode cX3_init 32 = .ok (.anewarray 23, 3) := by decide +kernel
theorem dX3_init_35 : decode cX3_init 35 = .ok (.putfield 25, 3) := by decide +kernel
theorem dX3_init_38 : decode cX3_init 38 = .ok (.aload_n 0, 1) := by decide +kernel
theorem dX3_init_39 : decode cX3_init 39 = .ok (.bipush 24, 2) := by decide +kernel
theorem dX3_init_41 : decode cX3_init 41 = .ok (.newarray .int, 2) := by decide +kernel
theorem dX3_init_43 : decode cX3_init 43 = .ok (.putfield 29, 3) := by decide +kernel
theorem dX3_init_46 : decode cX3_init 46 = .ok (.iconst 0, 1) := by decide +kernel
theorem dX3_init_47 : decode cX3_init 47 = .ok (.istore_n 1, 1) := by decide +kernel
theorem dX3_init_48 : decode cX3_init 48 = .ok (.iload_n 1, 1) := by decide +kernel
theorem dX3_init_49 : decode cX3_init 49 = .ok (.iconst 4, 1) := by decide +kernel
theorem dX3_init_50 : decode cX3_init 50 = .ok (.if_icmp .ge 22, 3) := by decide +kernel
theorem dX3_init_53 : decode cX3_init 53 = .ok (.aload_n 0, 1) := by decide +kernel
theorem dX3_init_54 : decode cX3_init 54 = .ok (.getfield 25, 3) := by decide +kernel
theorem dX3_init_57 : decode cX3_init 57 = .ok (.iload_n 1, 1) := by decide +kernel
theorem dX3_init_58 : decode cX3_init 58 = .ok (.new 23, 3) := by decide +kernel
theorem dX3_init_61 : decode cX3_init 61 = .ok (.dup, 1) := by decide +kernel
theorem dX3_init_62 : decode cX3_init 62 = .ok (.invokespecial 33, 3) := by decide +kernel
theorem dX3_init_65 : decode cX3_init 65 = .ok (.aastore, 1) := by decide +kernel
theorem dX3_init_66 : decode cX3_init 66 = .ok (.iinc 1 1, 3) := by decide +kernel
theorem dX3_init_69 : decode cX3_init 69 = .ok (.goto (-21), 3) := by decide +kernel
theorem dX3_init_72 : decode cX3_init 72 = .ok (.aload_n 0, 1) := by decide +kernel
theorem dX3_init_73 : decode cX3_init 73 = .ok (.iconst 4, 1) := by decide +kernel
theorem dX3_init_74 : decode cX3_init 74 = .ok (.iconst 1, 1) := by decide +kernel
theorem dX3_init_75 : decode cX3_init 75 = .ok (.iconst 2, 1) := by decide +kernel
theorem dX3_init_76 : decode cX3_init 76 = .ok (.invokevirtual 34, 3) := by decide +kernel
theorem dX3_init_79 : decode cX3_init 79 = .ok (.return_, 1) := by decide +kernel
theorem dX3_begin_0 : decode cX3_begin 0 = .ok (.aload_n 0, 1) := by decide +kernel
theorem dX3_begin_1 : decode cX3_begin 1 = .ok (.getfield 14, 3) := by decide +kernel
theorem dX3_begin_4 : decode cX3_begin 4 = .ok (.invokevirtual 38, 3) := by decide +kernel
theorem dX3_begin_7 : decode cX3_begin 7 = .ok (.aload_n 0, 1) := by decide +kernel
theorem dX3_begin_8 : decode cX3_begin 8 = .ok (.getfield 20, 3) := by decide +kernel
theorem dX3_begin_11 : decode cX3_begin 11 = .ok (.invokevirtual 38, 3) := by decide +kernel
theorem dX3_begin_14 : decode cX3_begin 14 = .ok (.iconst 0, 1) := by decide +kernel
theorem dX3_begin_15 : decode cX3_begin 15 = .ok (.istore 4, 2) := by decide +kernel
theorem dX3_begin_17 : decode cX3_begin 17 = .ok (.iload 4, 2) := by decide +kernel
theorem dX3_begin_19 : decode cX3_begin 19 = .ok (.iconst 4, 1) := by decide +kernel
theorem dX3_begin_20 : decode cX3_begin 20 = .ok (.if_icmp .ge 19, 3) := by decide +kernel
theorem dX3_begin_23 : decode cX3_begin 23 = .ok (.aload_n 0, 1) := by decide +kernel
theorem dX3_begin_24 : decode cX3_begin 24 = .ok (.getfield 25, 3) := by decide +kernel
theorem dX3_begin_27 : decode cX3_begin 27 = .ok (.iload 4, 2) := by decide +kernel
theorem dX3_begin_29 : decode cX3_begin 29 = .ok (.aaload, 1) := by decide +kernel
theorem dX3_begin_30 : decode cX3_begin 30 = .ok (.invokevirtual 41, 3) := by decide +kernel
theorem dX3_begin_33 : decode cX3_begin 33 = .ok (.iinc 4 1, 3) := by decide +kernel
theorem dX3_begin_36 : decode cX3_begin 36 = .ok (.goto (-19), 3) := by decide +kernel
theorem dX3_begin_39 : decode cX3_begin 39 = .ok (.aload_n 0, 1) := by decide +kernel
theorem dX3_begin_40 : decode cX3_begin 40 = .ok (.iload_n 1, 1) := by decide +kernel
theorem dX3_begin_41 : decode cX3_begin 41 = .ok (.putfield 43, 3) := by decide +kernel
theorem dX3_begin_44 : decode cX3_begin 44 = .ok (.aload_n 0, 1) := by decide +kernel
theorem dX3_begin_45 : decode cX3_begin 45 = .ok (.iload_n 2, 1) := by decide +kernel
theorem dX3_begin_46 : decode cX3_begin 46 = .ok (.putfield 47, 3) := by decide +kernel
theorem dX3_begin_49 : decode cX3_begin 49 = .ok (.aload_n 0, 1) := by decide +kernel
theorem dX3_begin_50 : decode cX3_begin 50 = .ok (.iload_n 3, 1) := by decide +kernel
theorem dX3_begin_51 : decode cX3_begin 51 = .ok (.putfield 50, 3) := by decide +kernel
theorem dX3_begin_54 : decode cX3_begin 54 = .ok (.aload_n 0, 1) := by decide +kernel
theorem dX3_begin_55 : decode cX3_begin 55 = .ok (.iconst 0, 1) := by decide +kernel
theorem dX3_begin_56 : decode cX3_begin 56 = .ok (.putfield 53, 3) := by decide +kernel
theorem dX3_begin_59 : decode cX3_begin 59 = .ok (.aload_n 0, 1) := by decide +kernel
theorem dX3_begin_60 : decode cX3_begin 60 = .ok (.iconst 0, 1) := by decide +kernel
theorem dX3_begin_61 : decode cX3_begin 61 = .ok (.putfield 56, 3) := by decide +kernel
theorem dX3_begin_64 : decode cX3_begin 64 = .ok (.aload_n 0, 1) := by decide +kernel
theorem dX3_begin_65 : decode cX3_begin 65 = .ok (.iconst 0, 1) := by decide +kernel
theorem dX3_begin_66 : decode cX3_begin 66 = .ok (.putfield 59, 3) := by decide +kernel
theorem dX3_begin_69 : decode cX3_begin 69 = .ok (.aload_n 0, 1) := by decide +kernel
theorem dX3_begin_70 : decode cX3_begin 70 = .ok (.iconst 0, 1) := by decide +kernel
theorem dX3_begin_71 : decode cX3_begin 71 = .ok (.putfield 62, 3) := by decide +kernel
theorem dX3_begin_74 : decode cX3_begin 74 = .ok (.return_, 1) := by decide +kernel
theorem dX3_copyFrom_0 : decode cX3_copyFrom 0 = .ok (.aload_n 0, 1) := by decide +kernel
theorem dX3_copyFrom_1 : decode cX3_copyFrom 1 = .ok (.getfield 14, 3) := by decide +kernel
theorem dX3_copyFrom_4 : decode cX3_copyFrom 4 = .ok (.aload_n 1, 1) := by decide +kernel
theorem dX3_copyFrom_5 : decode cX3_copyFrom 5 = .ok (.getfield 14, 3) := by decide +kernel
theorem dX3_copyFrom_8 : decode cX3_copyFrom 8 = .ok (.invokevirtual 65, 3) := by decide +kernel
theorem dX3_copyFrom_11 : decode cX3_copyFrom 11 = .ok (.aload_n 0, 1) := by decide +kernel
theorem dX3_copyFrom_12 : decode cX3_copyFrom 12 = .ok (.getfield 20, 3) := by decide +kernel
theorem dX3_copyFrom_15 : decode cX3_copyFrom 15 = .ok (.aload_n 1, 1) := by decide +kernel
theorem dX3_copyFrom_16 : decode cX3_copyFrom 16 = .ok (.getfield 20, 3) := by decide +kernel
theorem dX3_copyFrom_19 : decode cX3_copyFrom 19 = .ok (.invokevirtual 65, 3) := by decide +kernel
theorem dX3_copyFrom_22 : decode cX3_copyFrom 22 = .ok (.iconst 0, 1) := by decide +kernel
theorem dX3_copyFrom_23 : decode cX3_copyFrom 23 = .ok (.istore_n 2, 1) := by decide +kernel
theorem dX3_copyFrom_24 : decode cX3_copyFrom 24 = .ok (.iload_n 2, 1) := by decide +kernel
theorem dX3_copyFrom_25 : decode cX3_copyFrom 25 = .ok (.iconst 4, 1) := by decide +kernel
theorem dX3_copyFrom_26 : decode cX3_copyFrom 26 = .ok (.if_icmp .ge 24, 3) := by decide +kernel
theorem dX3_copyFrom_29 : decode cX3_copyFrom 29 = .ok (.aload_n 0, 1) := by decide +kernel
theorem dX3_copyFrom_30 : decode cX3_copyFrom 30 = .ok (.getfield 25, 3) := by decide +kernel
theorem dX3_copyFrom_33 : decode cX3_copyFrom 33 = .ok (.iload_n 2, 1) := by decide +kernel
theorem dX3_copyFrom_34 : decode cX3_copyFrom 34 = .ok (.aaload, 1) := by decide +kernel
theorem dX3_copyFrom_35 : decode cX3_copyFrom 35 = .ok (.aload_n 1, 1) := by decide +kernel
theorem dX3_copyFrom_36 : decode cX3_copyFrom 36 = .ok (.getfield 25, 3) := by decide +kernel
theorem dX3_copyFrom_39 : decode cX3_copyFrom 39 = .ok (.iload_n 2, 1) := by decide +kernel
theorem dX3_copyFrom_40 : decode cX3_copyFrom 40 = .ok (.aaload, 1) := by decide +kernel
theorem dX3_copyFrom_41 : decode cX3_copyFrom 41 = .ok (.invokevirtual 69, 3) := by decide +kernel
theorem dX3_copyFrom_44 : decode cX3_copyFrom 44 = .ok (.iinc 2 1, 3) := by decide +kernel
theorem dX3_copyFrom_47 : decode cX3_copyFrom 47 = .ok (.goto (-23), 3) := by decide +kernel
theorem dX3_copyFrom_50 : decode cX3_copyFrom 50 = .ok (.aload_n 1, 1) := by decide +kernel
theorem dX3_copyFrom_51 : decode cX3_copyFrom 51 = .ok (.getfield 29, 3) := by decide +kernel
theorem dX3_copyFrom_54 : decode cX3_copyFrom 54 = .ok (.iconst 0, 1) := by decide +kernel
theorem dX3_copyFrom_55 : decode cX3_copyFrom 55 = .ok (.aload_n 0, 1) := by decide +kernel
theorem dX3_copyFrom_56 : decode cX3_copyFrom 56 = .ok (.getfield 29, 3) := by decide +kernel
theorem dX3_copyFrom_59 : decode cX3_copyFrom 59 = .ok (.iconst 0, 1) := by decide +kernel
theorem dX3_copyFrom_60 : decode cX3_copyFrom 60 = .ok (.bipush 24, 2) := by decide +kernel
theorem dX3_copyFrom_62 : decode cX3_copyFrom 62 = .ok (.invokestatic 72, 3) := by decide +kernel
theorem dX3_copyFrom_65 : decode cX3_copyFrom 65 = .ok (.aload_n 0, 1) := by decide +kernel
theorem dX3_copyFrom_66 : decode cX3_copyFrom 66 = .ok (.aload_n 1, 1) := by decide +kernel
theorem dX3_copyFrom_67 : decode cX3_copyFrom 67 = .ok (.getfield 43, 3) := by decide +kernel
theorem dX3_copyFrom_70 : decode cX3_copyFrom 70 = .ok (.putfield 43, 3) := by decide +kernel
theorem dX3_copyFrom_73 : decode cX3_copyFrom 73 = .ok (.aload_n 0, 1) := by decide +kernel
theorem dX3_copyFrom_74 : decode cX3_copyFrom 74 = .ok (.aload_n 1, 1) := by decide +kernel
theorem dX3_copyFrom_75 : decode cX3_copyFrom 75 = .ok (.getfield 47, 3) := by decide +kernel
theorem dX3_copyFrom_78 : decode cX3_copyFrom 78 = .ok (.putfield 47, 3) := by decide +kernel
theorem dX3_copyFrom_81 : decode cX3_copyFrom 81 = .ok (.aload_n 0, 1) := by decide +kernel
theorem dX3_copyFrom_82 : decode cX3_copyFrom 82 = .ok (.aload_n 1, 1) := by decide +kernel
theorem dX3_copyFrom_83 : decode cX3_copyFrom 83 = .ok (.getfield 50, 3) := by decide +kernel
theorem dX3_copyFrom_86 : decode cX3_copyFrom 86 = .ok (.putfield 50, 3) := by decide +kernel
theorem dX3_copyFrom_89 : decode cX3_copyFrom 89 = .ok (.aload_n 0, 1) := by decide +kernel
theorem dX3_copyFrom_90 : decode cX3_copyFrom 90 = .ok (.aload_n 1, 1) := by decide +kernel
theorem dX3_copyFrom_91 : decode cX3_copyFrom 91 = .ok (.getfield 53, 3) := by decide +kernel
theorem dX3_copyFrom_94 : decode cX3_copyFrom 94 = .ok (.putfield 53, 3) := by decide +kernel
theorem dX3_copyFrom_97 : decode cX3_copyFrom 97 = .ok (.aload_n 0, 1) := by decide +kernel
theorem dX3_copyFrom_98 : decode cX3_copyFrom 98 = .ok (.aload_n 1, 1) := by decide +kernel
theorem dX3_copyFrom_99 : decode cX3_copyFrom 99 = .ok (.getfield 56, 3) := by decide +kernel
theorem dX3_copyFrom_102 : decode cX3_copyFrom 102 = .ok (.putfield 56, 3) := by decide +kernel
theorem dX3_copyFrom_105 : decode cX3_copyFrom 105 = .ok (.aload_n 0, 1) := by decide +kernel
theorem dX3_copyFrom_106 : decode cX3_copyFrom 106 = .ok (.aload_n 1, 1) := by decide +kernel
theorem dX3_copyFrom_107 : decode cX3_copyFrom 107 = .ok (.getfield 59, 3) := by decide +kernel
theorem dX3_copyFrom_110 : decode cX3_copyFrom 110 = .ok (.putfield 59, 3) := by decide +kernel
theorem dX3_copyFrom_113 : decode cX3_copyFrom 113 = .ok (.aload_n 0, 1) := by decide +kernel
theorem dX3_copyFrom_114 : decode cX3_copyFrom 114 = .ok (.aload_n 1, 1) := by decide +kernel
theorem dX3_copyFrom_115 : decode cX3_copyFrom 115 = .ok (.getfield 62, 3) := by decide +kernel
theorem dX3_copyFrom_118 : decode cX3_copyFrom 118 = .ok (.putfield 62, 3) := by decide +kernel
theorem dX3_copyFrom_121 : decode cX3_copyFrom 121 = .ok (.return_, 1) := by decide +kernel
theorem dX3_answer_0 : decode cX3_answer 0 = .ok (.aload_n 0, 1) := by decide +kernel
theorem dX3_answer_1 : decode cX3_answer 1 = .ok (.dup, 1) := by decide +kernel
theorem dX3_answer_2 : decode cX3_answer 2 = .ok (.getfield 62, 3) := by decide +kernel
theorem dX3_answer_5 : decode cX3_answer 5 = .ok (.iconst 1, 1) := by decide +kernel
theorem dX3_answer_6 : decode cX3_answer 6 = .ok (.iadd, 1) := by decide +kernel
theorem dX3_answer_7 : decode cX3_answer 7 = .ok (.putfield 62, 3) := by decide +kernel
theorem dX3_answer_10 : decode cX3_answer 10 = .ok (.aload_n 0, 1) := by decide +kernel
theorem dX3_answer_11 : decode cX3_answer 11 = .ok (.getfield 29, 3) := by decide +kernel
theorem dX3_answer_14 : decode cX3_answer 14 = .ok (.aload_n 0, 1) := by decide +kernel
theorem dX3_answer_15 : decode cX3_answer 15 = .ok (.getfield 62, 3) := by decide +kernel
theorem dX3_answer_18 : decode cX3_answer 18 = .ok (.invokestatic 78, 3) := by decide +kernel
theorem dX3_answer_21 : decode cX3_answer 21 = .ok (.iload_n 2, 1) := by decide +kernel
theorem dX3_answer_22 : decode cX3_answer 22 = .ok (.iastore, 1) := by decide +kernel
theorem dX3_answer_23 : decode cX3_answer 23 = .ok (.aload_n 0, 1) := by decide +kernel
theorem dX3_answer_24 : decode cX3_answer 24 = .ok (.getfield 25, 3) := by decide +kernel
theorem dX3_answer_27 : decode cX3_answer 27 = .ok (.iload_n 1, 1) := by decide +kernel
theorem dX3_answer_28 : decode cX3_answer 28 = .ok (.aaload, 1) := by decide +kernel
theorem dX3_answer_29 : decode cX3_answer 29 = .ok (.getfield 82, 3) := by decide +kernel
theorem dX3_answer_32 : decode cX3_answer 32 = .ok (.iconst 0, 1) := by decide +kernel
theorem dX3_answer_33 : decode cX3_answer 33 = .ok (.dup2, 1) := by decide +kernel
theorem dX3_answer_34 : decode cX3_answer 34 = .ok (.iaload, 1) := by decide +kernel
theorem dX3_answer_35 : decode cX3_answer 35 = .ok (.iconst 1, 1) := by decide +kernel
theorem dX3_answer_36 : decode cX3_answer 36 = .ok (.iadd, 1) := by decide +kernel
theorem dX3_answer_37 : decode cX3_answer 37 = .ok (.iastore, 1) := by decide +kernel
theorem dX3_answer_38 : decode cX3_answer 38 = .ok (.aload_n 0, 1) := by decide +kernel
theorem dX3_answer_39 : decode cX3_answer 39 = .ok (.getfield 14, 3) := by decide +kernel
theorem dX3_answer_42 : decode cX3_answer 42 = .ok (.iload_n 2, 1) := by decide +kernel
theorem dX3_answer_43 : decode cX3_answer 43 = .ok (.invokevirtual 85, 3) := by decide +kernel
theorem dX3_answer_46 : decode cX3_answer 46 = .ok (.istore_n 3, 1) := by decide +kernel
theorem dX3_answer_47 : decode cX3_answer 47 = .ok (.iload_n 3, 1) := by decide +kernel
theorem dX3_answer_48 : decode cX3_answer 48 = .ok (.iconst (-1), 1) := by decide +kernel
theorem dX3_answer_49 : decode cX3_answer 49 = .ok (.if_icmp .ne 19, 3) := by decide +kernel
theorem dX3_answer_52 : decode cX3_answer 52 = .ok (.aload_n 0, 1) := by decide +kernel
theorem dX3_answer_53 : decode cX3_answer 53 = .ok (.iload_n 1, 1) := by decide +kernel
theorem dX3_answer_54 : decode cX3_answer 54 = .ok (.iload_n 2, 1) := by decide +kernel
theorem dX3_answer_55 : decode cX3_answer 55 = .ok (.invokevirtual 88, 3) := by decide +kernel
theorem dX3_answer_58 : decode cX3_answer 58 = .ok (.aload_n 0, 1) := by decide +kernel
theorem dX3_answer_59 : decode cX3_answer 59 = .ok (.iload_n 2, 1) := by decide +kernel
theorem dX3_answer_60 : decode cX3_answer 60 = .ok (.iload_n 1, 1) := by decide +kernel
theorem dX3_answer_61 : decode cX3_answer 61 = .ok (.invokevirtual 92, 3) := by decide +kernel
theorem dX3_answer_64 : decode cX3_answer 64 = .ok (.pop, 1) := by decide +kernel
theorem dX3_answer_65 : decode cX3_answer 65 = .ok (.goto 9, 3) := by decide +kernel
theorem dX3_answer_68 : decode cX3_answer 68 = .ok (.aload_n 0, 1) := by decide +kernel
theorem dX3_answer_69 : decode cX3_answer 69 = .ok (.iload_n 1, 1) := by decide +kernel
theorem dX3_answer_70 : decode cX3_answer 70 = .ok (.iload_n 3, 1) := by decide +kernel
theorem dX3_answer_71 : decode cX3_answer 71 = .ok (.invokevirtual 96, 3) := by decide +kernel
theorem dX3_answer_74 : decode cX3_answer 74 = .ok (.aload_n 0, 1) := by decide +kernel
theorem dX3_answer_75 : decode cX3_answer 75 = .ok (.getfield 25, 3) := by decide +kernel
theorem dX3_answer_78 : decode cX3_answer 78 = .ok (.iload_n 1, 1) := by decide +kernel
theorem dX3_answer_79 : decode cX3_answer 79 = .ok (.aaload, 1) := by decide +kernel
theorem dX3_answer_80 : decode cX3_answer 80 = .ok (.iload_n 2, 1) := by decide +kernel
theorem dX3_answer_81 : decode cX3_answer 81 = .ok (.invokevirtual 99, 3) := by decide +kernel
theorem dX3_answer_84 : decode cX3_answer 84 = .ok (.aload_n 0, 1) := by decide +kernel
theorem dX3_answer_85 : decode cX3_answer 85 = .ok (.iload_n 1, 1) := by decide +kernel
theorem dX3_answer_86 : decode cX3_answer 86 = .ok (.iload_n 2, 1) := by decide +kernel
theorem dX3_answer_87 : decode cX3_answer 87 = .ok (.invokevirtual 102, 3) := by decide +kernel
theorem dX3_answer_90 : decode cX3_answer 90 = .ok (.aload_n 0, 1) := by decide +kernel
theorem dX3_answer_91 : decode cX3_answer 91 = .ok (.getfield 62, 3) := by decide +kernel
theorem dX3_answer_94 : decode cX3_answer 94 = .ok (.aload_n 0, 1) := by decide +kernel
theorem dX3_answer_95 : decode cX3_answer 95 = .ok (.getfield 50, 3) := by decide +kernel
theorem dX3_answer_98 : decode cX3_answer 98 = .ok (.irem, 1) := by decide +kernel
theorem dX3_answer_99 : decode cX3_answer 99 = .ok (.ifCond .ne 10, 3) := by decide +kernel
theorem dX3_answer_102 : decode cX3_answer 102 = .ok (.aload_n 0, 1) := by decide +kernel
theorem dX3_answer_103 : decode cX3_answer 103 = .ok (.iconst (-1), 1) := by decide +kernel
theorem dX3_answer_104 : decode cX3_answer 104 = .ok (.iconst (-1), 1) := by decide +kernel
theorem dX3_answer_105 : decode cX3_answer 105 = .ok (.invokevirtual 92, 3) := by decide +kernel
theorem dX3_answer_108 : decode cX3_answer 108 = .ok (.pop, 1) := by decide +kernel
theorem dX3_answer_109 : decode cX3_answer 109 = .ok (.iload_n 3, 1) := by decide +kernel
theorem dX3_answer_110 : decode cX3_answer 110 = .ok (.iconst (-1), 1) := by decide +kernel
theorem dX3_answer_111 : decode cX3_answer 111 = .ok (.if_icmp .ne 7, 3) := by decide +kernel
theorem dX3_answer_114 : decode cX3_answer 114 = .ok (.iconst 1, 1) := by decide +kernel
theorem dX3_answer_115 : decode cX3_answer 115 = .ok (.goto 4, 3) := by decide +kernel
theorem dX3_answer_118 : decode cX3_answer 118 = .ok (.iconst 0, 1) := by decide +kernel
theorem dX3_answer_119 : decode cX3_answer 119 = .ok (.ireturn, 1) := by decide +kernel
theorem dX3_hit_0 : decode cX3_hit 0 = .ok (.aload_n 0, 1) := by decide +kernel
theorem dX3_hit_1 : decode cX3_hit 1 = .ok (.getfield 14, 3) := by decide +kernel
theorem dX3_hit_4 : decode cX3_hit 4 = .ok (.getfield 105, 3) := by decide +kernel
theorem dX3_hit_7 : decode cX3_hit 7 = .ok (.iload_n 2, 1) := by decide +kernel
theorem dX3_hit_8 : decode cX3_hit 8 = .ok (.iaload, 1) := by decide +kernel
theorem dX3_hit_9 : decode cX3_hit 9 = .ok (.istore_n 3, 1) := by decide +kernel
theorem dX3_hit_10 : decode cX3_hit 10 = .ok (.aload_n 0, 1) := by decide +kernel
theorem dX3_hit_11 : decode cX3_hit 11 = .ok (.getfield 14, 3) := by decide +kernel
theorem dX3_hit_14 : decode cX3_hit 14 = .ok (.getfield 108, 3) := by decide +kernel
theorem dX3_hit_17 : decode cX3_hit 17 = .ok (.iload_n 2, 1) := by decide +kernel
theorem dX3_hit_18 : decode cX3_hit 18 = .ok (.iaload, 1) := by decide +kernel
theorem dX3_hit_19 : decode cX3_hit 19 = .ok (.istore 4, 2) := by decide +kernel
theorem dX3_hit_21 : decode cX3_hit 21 = .ok (.aload_n 0, 1) := by decide +kernel
theorem dX3_hit_22 : decode cX3_hit 22 = .ok (.getfield 25, 3) := by decide +kernel
theorem dX3_hit_25 : decode cX3_hit 25 = .ok (.iload_n 1, 1) := by decide +kernel
theorem dX3_hit_26 : decode cX3_hit 26 = .ok (.aaload, 1) := by decide +kernel
theorem dX3_hit_27 : decode cX3_hit 27 = .ok (.getfield 82, 3) := by decide +kernel
theorem dX3_hit_30 : decode cX3_hit 30 = .ok (.iconst 1, 1) := by decide +kernel
theorem dX3_hit_31 : decode cX3_hit 31 = .ok (.dup2, 1) := by decide +kernel
theorem dX3_hit_32 : decode cX3_hit 32 = .ok (.iaload, 1) := by decide +kernel
theorem dX3_hit_33 : decode cX3_hit 33 = .ok (.iconst 1, 1) := by decide +kernel
theorem dX3_hit_34 : decode cX3_hit 34 = .ok (.iadd, 1) := by decide +kernel
theorem dX3_hit_35 : decode cX3_hit 35 = .ok (.iastore, 1) := by decide +kernel
theorem dX3_hit_36 : decode cX3_hit 36 = .ok (.aload_n 0, 1) := by decide +kernel
theorem dX3_hit_37 : decode cX3_hit 37 = .ok (.getfield 14, 3) := by decide +kernel
theorem dX3_hit_40 : decode cX3_hit 40 = .ok (.getfield 111, 3) := by decide +kernel
theorem dX3_hit_43 : decode cX3_hit 43 = .ok (.iload_n 2, 1) := by decide +kernel
theorem dX3_hit_44 : decode cX3_hit 44 = .ok (.iaload, 1) := by decide +kernel
theorem dX3_hit_45 : decode cX3_hit 45 = .ok (.iconst 1, 1) := by decide +kernel
theorem dX3_hit_46 : decode cX3_hit 46 = .ok (.if_icmp .ne 13, 3) := by decide +kernel
theorem dX3_hit_49 : decode cX3_hit 49 = .ok (.aload_n 0, 1) := by decide +kernel
theorem dX3_hit_50 : decode cX3_hit 50 = .ok (.getfield 25, 3) := by decide +kernel
theorem dX3_hit_53 : decode cX3_hit 53 = .ok (.iload 4, 2) := by decide +kernel
theorem dX3_hit_55 : decode cX3_hit 55 = .ok (.aaload, 1) := by decide +kernel
theorem dX3_hit_56 : decode cX3_hit 56 = .ok (.invokevirtual 114, 3) := by decide +kernel
theorem dX3_hit_59 : decode cX3_hit 59 = .ok (.aload_n 0, 1) := by decide +kernel
theorem dX3_hit_60 : decode cX3_hit 60 = .ok (.getfield 14, 3) := by decide +kernel
theorem dX3_hit_63 : decode cX3_hit 63 = .ok (.iload_n 2, 1) := by decide +kernel
theorem dX3_hit_64 : decode cX3_hit 64 = .ok (.invokevirtual 117, 3) := by decide +kernel
theorem dX3_hit_67 : decode cX3_hit 67 = .ok (.aload_n 0, 1) := by decide +kernel
theorem dX3_hit_68 : decode cX3_hit 68 = .ok (.getfield 14, 3) := by decide +kernel
theorem dX3_hit_71 : decode cX3_hit 71 = .ok (.iload_n 3, 1) := by decide +kernel
theorem dX3_hit_72 : decode cX3_hit 72 = .ok (.iload 4, 2) := by decide +kernel
theorem dX3_hit_74 : decode cX3_hit 74 = .ok (.iconst 0, 1) := by decide +kernel
theorem dX3_hit_75 : decode cX3_hit 75 = .ok (.invokevirtual 120, 3) := by decide +kernel
theorem dX3_hit_78 : decode cX3_hit 78 = .ok (.return_, 1) := by decide +kernel
theorem dX3_demand_0 : decode cX3_demand 0 = .ok (.aload_n 0, 1) := by decide +kernel
theorem dX3_demand_1 : decode cX3_demand 1 = .ok (.getfield 20, 3) := by decide +kernel
theorem dX3_demand_4 : decode cX3_demand 4 = .ok (.iload_n 2, 1) := by decide +kernel
theorem dX3_demand_5 : decode cX3_demand 5 = .ok (.invokevirtual 85, 3) := by decide +kernel
theorem dX3_demand_8 : decode cX3_demand 8 = .ok (.istore_n 3, 1) := by decide +kernel
theorem dX3_demand_9 : decode cX3_demand 9 = .ok (.iload_n 3, 1) := by decide +kernel
theorem dX3_demand_10 : decode cX3_demand 10 = .ok (.iconst (-1), 1) := by decide +kernel
theorem dX3_demand_11 : decode cX3_demand 11 = .ok (.if_icmp .eq 11, 3) := by decide +kernel
theorem dX3_demand_14 : decode cX3_demand 14 = .ok (.aload_n 0, 1) := by decide +kernel
theorem dX3_demand_15 : decode cX3_demand 15 = .ok (.getfield 20, 3) := by decide +kernel
theorem dX3_demand_18 : decode cX3_demand 18 = .ok (.iload_n 3, 1) := by decide +kernel
theorem dX3_demand_19 : decode cX3_demand 19 = .ok (.invokevirtual 117, 3) := by decide +kernel
theorem dX3_demand_22 : decode cX3_demand 22 = .ok (.aload_n 0, 1) := by decide +kernel
theorem dX3_demand_23 : decode cX3_demand 23 = .ok (.getfield 25, 3) := by decide +kernel
theorem dX3_demand_26 : decode cX3_demand 26 = .ok (.iload_n 1, 1) := by decide +kernel
theorem dX3_demand_27 : decode cX3_demand 27 = .ok (.aaload, 1) := by decide +kernel
theorem dX3_demand_28 : decode cX3_demand 28 = .ok (.getfield 82, 3) := by decide +kernel
theorem dX3_demand_31 : decode cX3_demand 31 = .ok (.iconst 2, 1) := by decide +kernel
theorem dX3_demand_32 : decode cX3_demand 32 = .ok (.dup2, 1) := by decide +kernel
theorem dX3_demand_33 : decode cX3_demand 33 = .ok (.iaload, 1) := by decide +kernel
theorem dX3_demand_34 : decode cX3_demand 34 = .ok (.iconst 1, 1) := by decide +kernel
theorem dX3_demand_35 : decode cX3_demand 35 = .ok (.iadd, 1) := by decide +kernel
theorem dX3_demand_36 : decode cX3_demand 36 = .ok (.iastore, 1) := by decide +kernel
theorem dX3_demand_37 : decode cX3_demand 37 = .ok (.return_, 1) := by decide +kernel
theorem dX3_tick_0 : decode cX3_tick 0 = .ok (.aload_n 0, 1) := by decide +kernel
theorem dX3_tick_1 : decode cX3_tick 1 = .ok (.dup, 1) := by decide +kernel
theorem dX3_tick_2 : decode cX3_tick 2 = .ok (.getfield 59, 3) := by decide +kernel
theorem dX3_tick_5 : decode cX3_tick 5 = .ok (.iconst 1, 1) := by decide +kernel
theorem dX3_tick_6 : decode cX3_tick 6 = .ok (.iadd, 1) := by decide +kernel
theorem dX3_tick_7 : decode cX3_tick 7 = .ok (.putfield 59, 3) := by decide +kernel
theorem dX3_tick_10 : decode cX3_tick 10 = .ok (.iconst 0, 1) := by decide +kernel
theorem dX3_tick_11 : decode cX3_tick 11 = .ok (.istore_n 3, 1) := by decide +kernel
theorem dX3_tick_12 : decode cX3_tick 12 = .ok (.iconst 0, 1) := by decide +kernel
theorem dX3_tick_13 : decode cX3_tick 13 = .ok (.istore 4, 2) := by decide +kernel
theorem dX3_tick_15 : decode cX3_tick 15 = .ok (.iload_n 1, 1) := by decide +kernel
theorem dX3_tick_16 : decode cX3_tick 16 = .ok (.iconst (-1), 1) := by decide +kernel
theorem dX3_tick_17 : decode cX3_tick 17 = .ok (.if_icmp .eq 16, 3) := by decide +kernel
theorem dX3_tick_20 : decode cX3_tick 20 = .ok (.iload_n 3, 1) := by decide +kernel
theorem dX3_tick_21 : decode cX3_tick 21 = .ok (.aload_n 0, 1) := by decide +kernel
theorem dX3_tick_22 : decode cX3_tick 22 = .ok (.iload_n 1, 1) := by decide +kernel
theorem dX3_tick_23 : decode cX3_tick 23 = .ok (.iload_n 2, 1) := by decide +kernel
theorem dX3_tick_24 : decode cX3_tick 24 = .ok (.iconst 0, 1) := by decide +kernel
theorem dX3_tick_25 : decode cX3_tick 25 = .ok (.invokevirtual 123, 3) := by decide +kernel
theorem dX3_tick_28 : decode cX3_tick 28 = .ok (.iadd, 1) := by decide +kernel
theorem dX3_tick_29 : decode cX3_tick 29 = .ok (.istore_n 3, 1) := by decide +kernel
theorem dX3_tick_30 : decode cX3_tick 30 = .ok (.iinc 4 1, 3) := by decide +kernel
theorem dX3_tick_33 : decode cX3_tick 33 = .ok (.iload 4, 2) := by decide +kernel
theorem dX3_tick_35 : decode cX3_tick 35 = .ok (.aload_n 0, 1) := by decide +kernel
theorem dX3_tick_36 : decode cX3_tick 36 = .ok (.getfield 47, 3) := by decide +kernel
theorem dX3_tick_39 : decode cX3_tick 39 = .ok (.if_icmp .ge 92, 3) := by decide +kernel
theorem dX3_tick_42 : decode cX3_tick 42 = .ok (.aload_n 0, 1) := by decide +kernel
theorem dX3_tick_43 : decode cX3_tick 43 = .ok (.getfield 20, 3) := by decide +kernel
theorem dX3_tick_46 : decode cX3_tick 46 = .ok (.aload_n 0, 1) := by decide +kernel
theorem dX3_tick_47 : decode cX3_tick 47 = .ok (.getfield 53, 3) := by decide +kernel
theorem dX3_tick_50 : decode cX3_tick 50 = .ok (.invokevirtual 127, 3) := by decide +kernel
theorem dX3_tick_53 : decode cX3_tick 53 = .ok (.istore 5, 2) := by decide +kernel
theorem dX3_tick_55 : decode cX3_tick 55 = .ok (.iload 5, 2) := by decide +kernel
theorem dX3_tick_57 : decode cX3_tick 57 = .ok (.iconst (-1), 1) := by decide +kernel
theorem dX3_tick_58 : decode cX3_tick 58 = .ok (.if_icmp .ne 6, 3) := by decide +kernel
theorem dX3_tick_61 : decode cX3_tick 61 = .ok (.goto 70, 3) := by decide +kernel
theorem dX3_tick_64 : decode cX3_tick 64 = .ok (.aload_n 0, 1) := by decide +kernel
theorem dX3_tick_65 : decode cX3_tick 65 = .ok (.getfield 20, 3) := by decide +kernel
theorem dX3_tick_68 : decode cX3_tick 68 = .ok (.getfield 105, 3) := by decide +kernel
theorem dX3_tick_71 : decode cX3_tick 71 = .ok (.iload 5, 2) := by decide +kernel
theorem dX3_tick_73 : decode cX3_tick 73 = .ok (.iaload, 1) := by decide +kernel
theorem dX3_tick_74 : decode cX3_tick 74 = .ok (.istore 6, 2) := by decide +kernel
theorem dX3_tick_76 : decode cX3_tick 76 = .ok (.aload_n 0, 1) := by decide +kernel
theorem dX3_tick_77 : decode cX3_tick 77 = .ok (.getfield 20, 3) := by decide +kernel
theorem dX3_tick_80 : decode cX3_tick 80 = .ok (.getfield 108, 3) := by decide +kernel
theorem dX3_tick_83 : decode cX3_tick 83 = .ok (.iload 5, 2) := by decide +kernel
theorem dX3_tick_85 : decode cX3_tick 85 = .ok (.iaload, 1) := by decide +kernel
theorem dX3_tick_86 : decode cX3_tick 86 = .ok (.istore 7, 2) := by decide +kernel
theorem dX3_tick_88 : decode cX3_tick 88 = .ok (.aload_n 0, 1) := by decide +kernel
theorem dX3_tick_89 : decode cX3_tick 89 = .ok (.getfield 20, 3) := by decide +kernel
theorem dX3_tick_92 : decode cX3_tick 92 = .ok (.iload 5, 2) := by decide +kernel
theorem dX3_tick_94 : decode cX3_tick 94 = .ok (.invokevirtual 117, 3) := by decide +kernel
theorem dX3_tick_97 : decode cX3_tick 97 = .ok (.aload_n 0, 1) := by decide +kernel
theorem dX3_tick_98 : decode cX3_tick 98 = .ok (.getfield 25, 3) := by decide +kernel
theorem dX3_tick_101 : decode cX3_tick 101 = .ok (.iload 7, 2) := by decide +kernel
theorem dX3_tick_103 : decode cX3_tick 103 = .ok (.aaload, 1) := by decide +kernel
theorem dX3_tick_104 : decode cX3_tick 104 = .ok (.getfield 82, 3) := by decide +kernel
theorem dX3_tick_107 : decode cX3_tick 107 = .ok (.iconst 3, 1) := by decide +kernel
theorem dX3_tick_108 : decode cX3_tick 108 = .ok (.dup2, 1) := by decide +kernel
theorem dX3_tick_109 : decode cX3_tick 109 = .ok (.iaload, 1) := by decide +kernel
theorem dX3_tick_110 : decode cX3_tick 110 = .ok (.iconst 1, 1) := by decide +kernel
theorem dX3_tick_111 : decode cX3_tick 111 = .ok (.iadd, 1) := by decide +kernel
theorem dX3_tick_112 : decode cX3_tick 112 = .ok (.iastore, 1) := by decide +kernel
theorem dX3_tick_113 : decode cX3_tick 113 = .ok (.iload_n 3, 1) := by decide +kernel
theorem dX3_tick_114 : decode cX3_tick 114 = .ok (.aload_n 0, 1) := by decide +kernel
theorem dX3_tick_115 : decode cX3_tick 115 = .ok (.iload 6, 2) := by decide +kernel
theorem dX3_tick_117 : decode cX3_tick 117 = .ok (.iload 7, 2) := by decide +kernel
theorem dX3_tick_119 : decode cX3_tick 119 = .ok (.iconst 1, 1) := by decide +kernel
theorem dX3_tick_120 : decode cX3_tick 120 = .ok (.invokevirtual 123, 3) := by decide +kernel
theorem dX3_tick_123 : decode cX3_tick 123 = .ok (.iadd, 1) := by decide +kernel
theorem dX3_tick_124 : decode cX3_tick 124 = .ok (.istore_n 3, 1) := by decide +kernel
theorem dX3_tick_125 : decode cX3_tick 125 = .ok (.iinc 4 1, 3) := by decide +kernel
theorem dX3_tick_128 : decode cX3_tick 128 = .ok (.goto (-95), 3) := by decide +kernel
theorem dX3_tick_131 : decode cX3_tick 131 = .ok (.iload_n 3, 1) := by decide +kernel
theorem dX3_tick_132 : decode cX3_tick 132 = .ok (.ireturn, 1) := by decide +kernel
theorem dX3_serve_0 : decode cX3_serve 0 = .ok (.aload_n 0, 1) := by decide +kernel
theorem dX3_serve_1 : decode cX3_serve 1 = .ok (.dup, 1) := by decide +kernel
theorem dX3_serve_2 : decode cX3_serve 2 = .ok (.getfield 56, 3) := by decide +kernel
theorem dX3_serve_5 : decode cX3_serve 5 = .ok (.iload_n 1, 1) := by decide +kernel
theorem dX3_serve_6 : decode cX3_serve 6 = .ok (.aload_n 0, 1) := by decide +kernel
theorem dX3_serve_7 : decode cX3_serve 7 = .ok (.getfield 53, 3) := by decide +kernel
theorem dX3_serve_10 : decode cX3_serve 10 = .ok (.isub, 1) := by decide +kernel
theorem dX3_serve_11 : decode cX3_serve 11 = .ok (.invokestatic 130, 3) := by decide +kernel
theorem dX3_serve_14 : decode cX3_serve 14 = .ok (.iadd, 1) := by decide +kernel
theorem dX3_serve_15 : decode cX3_serve 15 = .ok (.putfield 56, 3) := by decide +kernel
theorem dX3_serve_18 : decode cX3_serve 18 = .ok (.aload_n 0, 1) := by decide +kernel
theorem dX3_serve_19 : decode cX3_serve 19 = .ok (.iload_n 1, 1) := by decide +kernel
theorem dX3_serve_20 : decode cX3_serve 20 = .ok (.putfield 53, 3) := by decide +kernel
theorem dX3_serve_23 : decode cX3_serve 23 = .ok (.aload_n 0, 1) := by decide +kernel
theorem dX3_serve_24 : decode cX3_serve 24 = .ok (.getfield 14, 3) := by decide +kernel
theorem dX3_serve_27 : decode cX3_serve 27 = .ok (.getfield 135, 3) := by decide +kernel
theorem dX3_serve_30 : decode cX3_serve 30 = .ok (.aload_n 0, 1) := by decide +kernel
theorem dX3_serve_31 : decode cX3_serve 31 = .ok (.getfield 43, 3) := by decide +kernel
theorem dX3_serve_34 : decode cX3_serve 34 = .ok (.if_icmp .lt 30, 3) := by decide +kernel
theorem dX3_serve_37 : decode cX3_serve 37 = .ok (.aload_n 0, 1) := by decide +kernel
theorem dX3_serve_38 : decode cX3_serve 38 = .ok (.iload_n 2, 1) := by decide +kernel
theorem dX3_serve_39 : decode cX3_serve 39 = .ok (.invokevirtual 138, 3) := by decide +kernel
theorem dX3_serve_42 : decode cX3_serve 42 = .ok (.istore 4, 2) := by decide +kernel
theorem dX3_serve_44 : decode cX3_serve 44 = .ok (.iload 4, 2) := by decide +kernel
theorem dX3_serve_46 : decode cX3_serve 46 = .ok (.iconst (-1), 1) := by decide +kernel
theorem dX3_serve_47 : decode cX3_serve 47 = .ok (.if_icmp .ne 11, 3) := by decide +kernel
theorem dX3_serve_50 : decode cX3_serve 50 = .ok (.aload_n 0, 1) := by decide +kernel
theorem dX3_serve_51 : decode cX3_serve 51 = .ok (.iload_n 2, 1) := by decide +kernel
theorem dX3_serve_52 : decode cX3_serve 52 = .ok (.iload_n 3, 1) := by decide +kernel
theorem dX3_serve_53 : decode cX3_serve 53 = .ok (.invokevirtual 141, 3) := by decide +kernel
theorem dX3_serve_56 : decode cX3_serve 56 = .ok (.iconst 0, 1) := by decide +kernel
theorem dX3_serve_57 : decode cX3_serve 57 = .ok (.ireturn, 1) := by decide +kernel
theorem dX3_serve_58 : decode cX3_serve 58 = .ok (.aload_n 0, 1) := by decide +kernel
theorem dX3_serve_59 : decode cX3_serve 59 = .ok (.iload 4, 2) := by decide +kernel
theorem dX3_serve_61 : decode cX3_serve 61 = .ok (.invokevirtual 144, 3) := by decide +kernel
theorem dX3_serve_64 : decode cX3_serve 64 = .ok (.aload_n 0, 1) := by decide +kernel
theorem dX3_serve_65 : decode cX3_serve 65 = .ok (.getfield 14, 3) := by decide +kernel
theorem dX3_serve_68 : decode cX3_serve 68 = .ok (.iload_n 1, 1) := by decide +kernel
theorem dX3_serve_69 : decode cX3_serve 69 = .ok (.iload_n 2, 1) := by decide +kernel
theorem dX3_serve_70 : decode cX3_serve 70 = .ok (.iload_n 3, 1) := by decide +kernel
theorem dX3_serve_71 : decode cX3_serve 71 = .ok (.invokevirtual 120, 3) := by decide +kernel
theorem dX3_serve_74 : decode cX3_serve 74 = .ok (.iconst 1, 1) := by decide +kernel
theorem dX3_serve_75 : decode cX3_serve 75 = .ok (.ireturn, 1) := by decide +kernel
theorem dX3_leaver_0 : decode cX3_leaver 0 = .ok (.iconst (-1), 1) := by decide +kernel
theorem dX3_leaver_1 : decode cX3_leaver 1 = .ok (.istore_n 2, 1) := by decide +kernel
theorem dX3_leaver_2 : decode cX3_leaver 2 = .ok (.iconst 0, 1) := by decide +kernel
theorem dX3_leaver_3 : decode cX3_leaver 3 = .ok (.istore_n 3, 1) := by decide +kernel
theorem dX3_leaver_4 : decode cX3_leaver 4 = .ok (.iload_n 3, 1) := by decide +kernel
theorem dX3_leaver_5 : decode cX3_leaver 5 = .ok (.aload_n 0, 1) := by decide +kernel
theorem dX3_leaver_6 : decode cX3_leaver 6 = .ok (.getfield 14, 3) := by decide +kernel
theorem dX3_leaver_9 : decode cX3_leaver 9 = .ok (.getfield 135, 3) := by decide +kernel
theorem dX3_leaver_12 : decode cX3_leaver 12 = .ok (.if_icmp .ge 80, 3) := by decide +kernel
theorem dX3_leaver_15 : decode cX3_leaver 15 = .ok (.aload_n 0, 1) := by decide +kernel
theorem dX3_leaver_16 : decode cX3_leaver 16 = .ok (.getfield 14, 3) := by decide +kernel
theorem dX3_leaver_19 : decode cX3_leaver 19 = .ok (.getfield 108, 3) := by decide +kernel
theorem dX3_leaver_22 : decode cX3_leaver 22 = .ok (.iload_n 3, 1) := by decide +kernel
theorem dX3_leaver_23 : decode cX3_leaver 23 = .ok (.iaload, 1) := by decide +kernel
theorem dX3_leaver_24 : decode cX3_leaver 24 = .ok (.istore 4, 2) := by decide +kernel
theorem dX3_leaver_26 : decode cX3_leaver 26 = .ok (.iload 4, 2) := by decide +kernel
theorem dX3_leaver_28 : decode cX3_leaver 28 = .ok (.iload_n 1, 1) := by decide +kernel
theorem dX3_leaver_29 : decode cX3_leaver 29 = .ok (.if_icmp .eq 26, 3) := by decide +kernel
theorem dX3_leaver_32 : decode cX3_leaver 32 = .ok (.aload_n 0, 1) := by decide +kernel
theorem dX3_leaver_33 : decode cX3_leaver 33 = .ok (.getfield 14, 3) := by decide +kernel
theorem dX3_leaver_36 : decode cX3_leaver 36 = .ok (.getfield 147, 3) := by decide +kernel
theorem dX3_leaver_39 : decode cX3_leaver 39 = .ok (.iload 4, 2) := by decide +kernel
end
section
theorem dX3_leaver_41 : decode cX3_leaver 41 = .ok (.iaload, 1) := by decide +kernel
theorem dX3_leaver_42 : decode cX3_leaver 42 = .ok (.aload_n 0, 1) := by decide +kernel
theorem dX3_leaver_43 : decode cX3_leaver 43 = .ok (.getfield 25, 3) := by decide +kernel
theorem dX3_leaver_46 : decode cX3_leaver 46 = .ok (.iload 4, 2) := by decide +kernel
theorem dX3_leaver_48 : decode cX3_leaver 48 = .ok (.aaload, 1) := by decide +kernel
theorem dX3_leaver_49 : decode cX3_leaver 49 = .ok (.getfield 150, 3) := by decide +kernel
theorem dX3_leaver_52 : decode cX3_leaver 52 = .ok (.if_icmp .le 34, 3) := by decide +kernel
theorem dX3_leaver_55 : decode cX3_leaver 55 = .ok (.aload_n 0, 1) := by decide +kernel
theorem dX3_leaver_56 : decode cX3_leaver 56 = .ok (.getfield 25, 3) := by decide +kernel
theorem dX3_leaver_59 : decode cX3_leaver 59 = .ok (.iload 4, 2) := by decide +kernel
theorem dX3_leaver_61 : decode cX3_leaver 61 = .ok (.aaload, 1) := by decide +kernel
theorem dX3_leaver_62 : decode cX3_leaver 62 = .ok (.aload_n 0, 1) := by decide +kernel
theorem dX3_leaver_63 : decode cX3_leaver 63 = .ok (.getfield 14, 3) := by decide +kernel
theorem dX3_leaver_66 : decode cX3_leaver 66 = .ok (.getfield 105, 3) := by decide +kernel
theorem dX3_leaver_69 : decode cX3_leaver 69 = .ok (.iload_n 3, 1) := by decide +kernel
theorem dX3_leaver_70 : decode cX3_leaver 70 = .ok (.iaload, 1) := by decide +kernel
theorem dX3_leaver_71 : decode cX3_leaver 71 = .ok (.invokevirtual 153, 3) := by decide +kernel
theorem dX3_leaver_74 : decode cX3_leaver 74 = .ok (.ifCond .eq 5, 3) := by decide +kernel
theorem dX3_leaver_77 : decode cX3_leaver 77 = .ok (.iload_n 3, 1) := by decide +kernel
theorem dX3_leaver_78 : decode cX3_leaver 78 = .ok (.ireturn, 1) := by decide +kernel
theorem dX3_leaver_79 : decode cX3_leaver 79 = .ok (.iload_n 2, 1) := by decide +kernel
theorem dX3_leaver_80 : decode cX3_leaver 80 = .ok (.iconst (-1), 1) := by decide +kernel
theorem dX3_leaver_81 : decode cX3_leaver 81 = .ok (.if_icmp .ne 5, 3) := by decide +kernel
theorem dX3_leaver_84 : decode cX3_leaver 84 = .ok (.iload_n 3, 1) := by decide +kernel
theorem dX3_leaver_85 : decode cX3_leaver 85 = .ok (.istore_n 2, 1) := by decide +kernel
theorem dX3_leaver_86 : decode cX3_leaver 86 = .ok (.iinc 3 1, 3) := by decide +kernel
theorem dX3_leaver_89 : decode cX3_leaver 89 = .ok (.goto (-85), 3) := by decide +kernel
theorem dX3_leaver_92 : decode cX3_leaver 92 = .ok (.iload_n 2, 1) := by decide +kernel
theorem dX3_leaver_93 : decode cX3_leaver 93 = .ok (.ireturn, 1) := by decide +kernel
theorem dX3_letGo_0 : decode cX3_letGo 0 = .ok (.aload_n 0, 1) := by decide +kernel
theorem dX3_letGo_1 : decode cX3_letGo 1 = .ok (.getfield 14, 3) := by decide +kernel
theorem dX3_letGo_4 : decode cX3_letGo 4 = .ok (.getfield 111, 3) := by decide +kernel
theorem dX3_letGo_7 : decode cX3_letGo 7 = .ok (.iload_n 1, 1) := by decide +kernel
theorem dX3_letGo_8 : decode cX3_letGo 8 = .ok (.iaload, 1) := by decide +kernel
theorem dX3_letGo_9 : decode cX3_letGo 9 = .ok (.iconst 1, 1) := by decide +kernel
theorem dX3_letGo_10 : decode cX3_letGo 10 = .ok (.if_icmp .ne 20, 3) := by decide +kernel
theorem dX3_letGo_13 : decode cX3_letGo 13 = .ok (.aload_n 0, 1) := by decide +kernel
theorem dX3_letGo_14 : decode cX3_letGo 14 = .ok (.getfield 25, 3) := by decide +kernel
theorem dX3_letGo_17 : decode cX3_letGo 17 = .ok (.aload_n 0, 1) := by decide +kernel
theorem dX3_letGo_18 : decode cX3_letGo 18 = .ok (.getfield 14, 3) := by decide +kernel
theorem dX3_letGo_21 : decode cX3_letGo 21 = .ok (.getfield 108, 3) := by decide +kernel
theorem dX3_letGo_24 : decode cX3_letGo 24 = .ok (.iload_n 1, 1) := by decide +kernel
theorem dX3_letGo_25 : decode cX3_letGo 25 = .ok (.iaload, 1) := by decide +kernel
theorem dX3_letGo_26 : decode cX3_letGo 26 = .ok (.aaload, 1) := by decide +kernel
theorem dX3_letGo_27 : decode cX3_letGo 27 = .ok (.invokevirtual 157, 3) := by decide +kernel
theorem dX3_letGo_30 : decode cX3_letGo 30 = .ok (.aload_n 0, 1) := by decide +kernel
theorem dX3_letGo_31 : decode cX3_letGo 31 = .ok (.getfield 14, 3) := by decide +kernel
theorem dX3_letGo_34 : decode cX3_letGo 34 = .ok (.iload_n 1, 1) := by decide +kernel
theorem dX3_letGo_35 : decode cX3_letGo 35 = .ok (.invokevirtual 117, 3) := by decide +kernel
theorem dX3_letGo_38 : decode cX3_letGo 38 = .ok (.return_, 1) := by decide +kernel
theorem dX3_turnAway_0 : decode cX3_turnAway 0 = .ok (.iload_n 2, 1) := by decide +kernel
theorem dX3_turnAway_1 : decode cX3_turnAway 1 = .ok (.iconst 1, 1) := by decide +kernel
theorem dX3_turnAway_2 : decode cX3_turnAway 2 = .ok (.if_icmp .ne 15, 3) := by decide +kernel
theorem dX3_turnAway_5 : decode cX3_turnAway 5 = .ok (.aload_n 0, 1) := by decide +kernel
theorem dX3_turnAway_6 : decode cX3_turnAway 6 = .ok (.getfield 25, 3) := by decide +kernel
theorem dX3_turnAway_9 : decode cX3_turnAway 9 = .ok (.iload_n 1, 1) := by decide +kernel
theorem dX3_turnAway_10 : decode cX3_turnAway 10 = .ok (.aaload, 1) := by decide +kernel
theorem dX3_turnAway_11 : decode cX3_turnAway 11 = .ok (.invokevirtual 157, 3) := by decide +kernel
theorem dX3_turnAway_14 : decode cX3_turnAway 14 = .ok (.goto 19, 3) := by decide +kernel
theorem dX3_turnAway_17 : decode cX3_turnAway 17 = .ok (.aload_n 0, 1) := by decide +kernel
theorem dX3_turnAway_18 : decode cX3_turnAway 18 = .ok (.getfield 25, 3) := by decide +kernel
theorem dX3_turnAway_21 : decode cX3_turnAway 21 = .ok (.iload_n 1, 1) := by decide +kernel
theorem dX3_turnAway_22 : decode cX3_turnAway 22 = .ok (.aaload, 1) := by decide +kernel
theorem dX3_turnAway_23 : decode cX3_turnAway 23 = .ok (.getfield 82, 3) := by decide +kernel
theorem dX3_turnAway_26 : decode cX3_turnAway 26 = .ok (.bipush 6, 2) := by decide +kernel
theorem dX3_turnAway_28 : decode cX3_turnAway 28 = .ok (.dup2, 1) := by decide +kernel
theorem dX3_turnAway_29 : decode cX3_turnAway 29 = .ok (.iaload, 1) := by decide +kernel
theorem dX3_turnAway_30 : decode cX3_turnAway 30 = .ok (.iconst 1, 1) := by decide +kernel
theorem dX3_turnAway_31 : decode cX3_turnAway 31 = .ok (.iadd, 1) := by decide +kernel
theorem dX3_turnAway_32 : decode cX3_turnAway 32 = .ok (.iastore, 1) := by decide +kernel
theorem dX3_turnAway_33 : decode cX3_turnAway 33 = .ok (.return_, 1) := by decide +kernel
theorem dX3_wish_0 : decode cX3_wish 0 = .ok (.aload_n 0, 1) := by decide +kernel
theorem dX3_wish_1 : decode cX3_wish 1 = .ok (.getfield 25, 3) := by decide +kernel
theorem dX3_wish_4 : decode cX3_wish 4 = .ok (.iload_n 1, 1) := by decide +kernel
theorem dX3_wish_5 : decode cX3_wish 5 = .ok (.aaload, 1) := by decide +kernel
theorem dX3_wish_6 : decode cX3_wish 6 = .ok (.astore_n 3, 1) := by decide +kernel
theorem dX3_wish_7 : decode cX3_wish 7 = .ok (.aload_n 3, 1) := by decide +kernel
theorem dX3_wish_8 : decode cX3_wish 8 = .ok (.getfield 160, 3) := by decide +kernel
theorem dX3_wish_11 : decode cX3_wish 11 = .ok (.tableswitch 111 1 5 #[33, 47, 71, 80, 33], 33) := by decide +kernel
theorem dX3_wish_44 : decode cX3_wish 44 = .ok (.aload_n 0, 1) := by decide +kernel
theorem dX3_wish_45 : decode cX3_wish 45 = .ok (.iload_n 1, 1) := by decide +kernel
theorem dX3_wish_46 : decode cX3_wish 46 = .ok (.iload_n 2, 1) := by decide +kernel
theorem dX3_wish_47 : decode cX3_wish 47 = .ok (.iconst 1, 1) := by decide +kernel
theorem dX3_wish_48 : decode cX3_wish 48 = .ok (.aload_n 3, 1) := by decide +kernel
theorem dX3_wish_49 : decode cX3_wish 49 = .ok (.getfield 163, 3) := by decide +kernel
theorem dX3_wish_52 : decode cX3_wish 52 = .ok (.invokevirtual 166, 3) := by decide +kernel
theorem dX3_wish_55 : decode cX3_wish 55 = .ok (.goto 67, 3) := by decide +kernel
theorem dX3_wish_58 : decode cX3_wish 58 = .ok (.aload_n 3, 1) := by decide +kernel
theorem dX3_wish_59 : decode cX3_wish 59 = .ok (.invokevirtual 170, 3) := by decide +kernel
theorem dX3_wish_62 : decode cX3_wish 62 = .ok (.ifCond .eq 60, 3) := by decide +kernel
theorem dX3_wish_65 : decode cX3_wish 65 = .ok (.aload_n 0, 1) := by decide +kernel
theorem dX3_wish_66 : decode cX3_wish 66 = .ok (.iload_n 1, 1) := by decide +kernel
theorem dX3_wish_67 : decode cX3_wish 67 = .ok (.iload_n 2, 1) := by decide +kernel
theorem dX3_wish_68 : decode cX3_wish 68 = .ok (.aload_n 3, 1) := by decide +kernel
theorem dX3_wish_69 : decode cX3_wish 69 = .ok (.getfield 174, 3) := by decide +kernel
theorem dX3_wish_72 : decode cX3_wish 72 = .ok (.aload_n 3, 1) := by decide +kernel
theorem dX3_wish_73 : decode cX3_wish 73 = .ok (.getfield 163, 3) := by decide +kernel
theorem dX3_wish_76 : decode cX3_wish 76 = .ok (.invokevirtual 166, 3) := by decide +kernel
theorem dX3_wish_79 : decode cX3_wish 79 = .ok (.goto 43, 3) := by decide +kernel
theorem dX3_wish_82 : decode cX3_wish 82 = .ok (.aload_n 0, 1) := by decide +kernel
theorem dX3_wish_83 : decode cX3_wish 83 = .ok (.iload_n 1, 1) := by decide +kernel
theorem dX3_wish_84 : decode cX3_wish 84 = .ok (.iload_n 2, 1) := by decide +kernel
theorem dX3_wish_85 : decode cX3_wish 85 = .ok (.invokevirtual 177, 3) := by decide +kernel
theorem dX3_wish_88 : decode cX3_wish 88 = .ok (.goto 34, 3) := by decide +kernel
theorem dX3_wish_91 : decode cX3_wish 91 = .ok (.aload_n 3, 1) := by decide +kernel
theorem dX3_wish_92 : decode cX3_wish 92 = .ok (.iload_n 2, 1) := by decide +kernel
theorem dX3_wish_93 : decode cX3_wish 93 = .ok (.invokevirtual 180, 3) := by decide +kernel
theorem dX3_wish_96 : decode cX3_wish 96 = .ok (.ifCond .eq 26, 3) := by decide +kernel
theorem dX3_wish_99 : decode cX3_wish 99 = .ok (.aload_n 0, 1) := by decide +kernel
theorem dX3_wish_100 : decode cX3_wish 100 = .ok (.iload_n 1, 1) := by decide +kernel
theorem dX3_wish_101 : decode cX3_wish 101 = .ok (.iload_n 2, 1) := by decide +kernel
theorem dX3_wish_102 : decode cX3_wish 102 = .ok (.iconst 1, 1) := by decide +kernel
theorem dX3_wish_103 : decode cX3_wish 103 = .ok (.aload_n 3, 1) := by decide +kernel
theorem dX3_wish_104 : decode cX3_wish 104 = .ok (.getfield 163, 3) := by decide +kernel
theorem dX3_wish_107 : decode cX3_wish 107 = .ok (.aload_n 3, 1) := by decide +kernel
theorem dX3_wish_108 : decode cX3_wish 108 = .ok (.getfield 183, 3) := by decide +kernel
theorem dX3_wish_111 : decode cX3_wish 111 = .ok (.iload_n 2, 1) := by decide +kernel
theorem dX3_wish_112 : decode cX3_wish 112 = .ok (.isub, 1) := by decide +kernel
theorem dX3_wish_113 : decode cX3_wish 113 = .ok (.invokestatic 186, 3) := by decide +kernel
theorem dX3_wish_116 : decode cX3_wish 116 = .ok (.invokevirtual 166, 3) := by decide +kernel
theorem dX3_wish_119 : decode cX3_wish 119 = .ok (.goto 3, 3) := by decide +kernel
theorem dX3_wish_122 : decode cX3_wish 122 = .ok (.return_, 1) := by decide +kernel
theorem dX3_wishBySteps_0 : decode cX3_wishBySteps 0 = .ok (.iconst 1, 1) := by decide +kernel
theorem dX3_wishBySteps_1 : decode cX3_wishBySteps 1 = .ok (.istore 5, 2) := by decide +kernel
theorem dX3_wishBySteps_3 : decode cX3_wishBySteps 3 = .ok (.iload 5, 2) := by decide +kernel
theorem dX3_wishBySteps_5 : decode cX3_wishBySteps 5 = .ok (.iload 4, 2) := by decide +kernel
theorem dX3_wishBySteps_7 : decode cX3_wishBySteps 7 = .ok (.if_icmp .gt 20, 3) := by decide +kernel
theorem dX3_wishBySteps_10 : decode cX3_wishBySteps 10 = .ok (.aload_n 0, 1) := by decide +kernel
theorem dX3_wishBySteps_11 : decode cX3_wishBySteps 11 = .ok (.iload_n 1, 1) := by decide +kernel
theorem dX3_wishBySteps_12 : decode cX3_wishBySteps 12 = .ok (.iload_n 2, 1) := by decide +kernel
theorem dX3_wishBySteps_13 : decode cX3_wishBySteps 13 = .ok (.iload 5, 2) := by decide +kernel
theorem dX3_wishBySteps_15 : decode cX3_wishBySteps 15 = .ok (.iload_n 3, 1) := by decide +kernel
theorem dX3_wishBySteps_16 : decode cX3_wishBySteps 16 = .ok (.imul, 1) := by decide +kernel
theorem dX3_wishBySteps_17 : decode cX3_wishBySteps 17 = .ok (.iadd, 1) := by decide +kernel
theorem dX3_wishBySteps_18 : decode cX3_wishBySteps 18 = .ok (.invokevirtual 189, 3) := by decide +kernel
theorem dX3_wishBySteps_21 : decode cX3_wishBySteps 21 = .ok (.iinc 5 1, 3) := by decide +kernel
theorem dX3_wishBySteps_24 : decode cX3_wishBySteps 24 = .ok (.goto (-21), 3) := by decide +kernel
theorem dX3_wishBySteps_27 : decode cX3_wishBySteps 27 = .ok (.return_, 1) := by decide +kernel
theorem dX3_wishWhatFollowed_0 : decode cX3_wishWhatFollowed 0 = .ok (.aload_n 0, 1) := by decide +kernel
theorem dX3_wishWhatFollowed_1 : decode cX3_wishWhatFollowed 1 = .ok (.getfield 25, 3) := by decide +kernel
theorem dX3_wishWhatFollowed_4 : decode cX3_wishWhatFollowed 4 = .ok (.iload_n 1, 1) := by decide +kernel
theorem dX3_wishWhatFollowed_5 : decode cX3_wishWhatFollowed 5 = .ok (.aaload, 1) := by decide +kernel
theorem dX3_wishWhatFollowed_6 : decode cX3_wishWhatFollowed 6 = .ok (.astore_n 3, 1) := by decide +kernel
theorem dX3_wishWhatFollowed_7 : decode cX3_wishWhatFollowed 7 = .ok (.aload_n 3, 1) := by decide +kernel
theorem dX3_wishWhatFollowed_8 : decode cX3_wishWhatFollowed 8 = .ok (.getfield 192, 3) := by decide +kernel
theorem dX3_wishWhatFollowed_11 : decode cX3_wishWhatFollowed 11 = .ok (.iload_n 2, 1) := by decide +kernel
theorem dX3_wishWhatFollowed_12 : decode cX3_wishWhatFollowed 12 = .ok (.iaload, 1) := by decide +kernel
theorem dX3_wishWhatFollowed_13 : decode cX3_wishWhatFollowed 13 = .ok (.istore 4, 2) := by decide +kernel
theorem dX3_wishWhatFollowed_15 : decode cX3_wishWhatFollowed 15 = .ok (.iconst 0, 1) := by decide +kernel
theorem dX3_wishWhatFollowed_16 : decode cX3_wishWhatFollowed 16 = .ok (.istore 5, 2) := by decide +kernel
theorem dX3_wishWhatFollowed_18 : decode cX3_wishWhatFollowed 18 = .ok (.iload 5, 2) := by decide +kernel
theorem dX3_wishWhatFollowed_20 : decode cX3_wishWhatFollowed 20 = .ok (.aload_n 3, 1) := by decide +kernel
theorem dX3_wishWhatFollowed_21 : decode cX3_wishWhatFollowed 21 = .ok (.getfield 163, 3) := by decide +kernel
theorem dX3_wishWhatFollowed_24 : decode cX3_wishWhatFollowed 24 = .ok (.if_icmp .ge 31, 3) := by decide +kernel
theorem dX3_wishWhatFollowed_27 : decode cX3_wishWhatFollowed 27 = .ok (.iload 4, 2) := by decide +kernel
theorem dX3_wishWhatFollowed_29 : decode cX3_wishWhatFollowed 29 = .ok (.iconst (-1), 1) := by decide +kernel
theorem dX3_wishWhatFollowed_30 : decode cX3_wishWhatFollowed 30 = .ok (.if_icmp .eq 25, 3) := by decide +kernel
theorem dX3_wishWhatFollowed_33 : decode cX3_wishWhatFollowed 33 = .ok (.aload_n 0, 1) := by decide +kernel
theorem dX3_wishWhatFollowed_34 : decode cX3_wishWhatFollowed 34 = .ok (.iload_n 1, 1) := by decide +kernel
theorem dX3_wishWhatFollowed_35 : decode cX3_wishWhatFollowed 35 = .ok (.iload 4, 2) := by decide +kernel
theorem dX3_wishWhatFollowed_37 : decode cX3_wishWhatFollowed 37 = .ok (.invokevirtual 189, 3) := by decide +kernel
theorem dX3_wishWhatFollowed_40 : decode cX3_wishWhatFollowed 40 = .ok (.aload_n 3, 1) := by decide +kernel
theorem dX3_wishWhatFollowed_41 : decode cX3_wishWhatFollowed 41 = .ok (.getfield 192, 3) := by decide +kernel
theorem dX3_wishWhatFollowed_44 : decode cX3_wishWhatFollowed 44 = .ok (.iload 4, 2) := by decide +kernel
theorem dX3_wishWhatFollowed_46 : decode cX3_wishWhatFollowed 46 = .ok (.iaload, 1) := by decide +kernel
theorem dX3_wishWhatFollowed_47 : decode cX3_wishWhatFollowed 47 = .ok (.istore 4, 2) := by decide +kernel
theorem dX3_wishWhatFollowed_49 : decode cX3_wishWhatFollowed 49 = .ok (.iinc 5 1, 3) := by decide +kernel
theorem dX3_wishWhatFollowed_52 : decode cX3_wishWhatFollowed 52 = .ok (.goto (-34), 3) := by decide +kernel
theorem dX3_wishWhatFollowed_55 : decode cX3_wishWhatFollowed 55 = .ok (.return_, 1) := by decide +kernel
theorem dX3_wishOne_0 : decode cX3_wishOne 0 = .ok (.iload_n 2, 1) := by decide +kernel
theorem dX3_wishOne_1 : decode cX3_wishOne 1 = .ok (.invokestatic 195, 3) := by decide +kernel
theorem dX3_wishOne_4 : decode cX3_wishOne 4 = .ok (.ifCond .eq 47, 3) := by decide +kernel
theorem dX3_wishOne_7 : decode cX3_wishOne 7 = .ok (.aload_n 0, 1) := by decide +kernel
theorem dX3_wishOne_8 : decode cX3_wishOne 8 = .ok (.getfield 20, 3) := by decide +kernel
theorem dX3_wishOne_11 : decode cX3_wishOne 11 = .ok (.invokevirtual 198, 3) := by decide +kernel
theorem dX3_wishOne_14 : decode cX3_wishOne 14 = .ok (.ifCond .eq 37, 3) := by decide +kernel
theorem dX3_wishOne_17 : decode cX3_wishOne 17 = .ok (.aload_n 0, 1) := by decide +kernel
theorem dX3_wishOne_18 : decode cX3_wishOne 18 = .ok (.getfield 14, 3) := by decide +kernel
theorem dX3_wishOne_21 : decode cX3_wishOne 21 = .ok (.iload_n 2, 1) := by decide +kernel
theorem dX3_wishOne_22 : decode cX3_wishOne 22 = .ok (.invokevirtual 85, 3) := by decide +kernel
theorem dX3_wishOne_25 : decode cX3_wishOne 25 = .ok (.iconst (-1), 1) := by decide +kernel
theorem dX3_wishOne_26 : decode cX3_wishOne 26 = .ok (.if_icmp .ne 25, 3) := by decide +kernel
theorem dX3_wishOne_29 : decode cX3_wishOne 29 = .ok (.aload_n 0, 1) := by decide +kernel
theorem dX3_wishOne_30 : decode cX3_wishOne 30 = .ok (.getfield 20, 3) := by decide +kernel
theorem dX3_wishOne_33 : decode cX3_wishOne 33 = .ok (.iload_n 2, 1) := by decide +kernel
theorem dX3_wishOne_34 : decode cX3_wishOne 34 = .ok (.invokevirtual 85, 3) := by decide +kernel
theorem dX3_wishOne_37 : decode cX3_wishOne 37 = .ok (.iconst (-1), 1) := by decide +kernel
theorem dX3_wishOne_38 : decode cX3_wishOne 38 = .ok (.if_icmp .ne 13, 3) := by decide +kernel
theorem dX3_wishOne_41 : decode cX3_wishOne 41 = .ok (.aload_n 0, 1) := by decide +kernel
theorem dX3_wishOne_42 : decode cX3_wishOne 42 = .ok (.getfield 20, 3) := by decide +kernel
theorem dX3_wishOne_45 : decode cX3_wishOne 45 = .ok (.iload_n 2, 1) := by decide +kernel
theorem dX3_wishOne_46 : decode cX3_wishOne 46 = .ok (.iload_n 1, 1) := by decide +kernel
theorem dX3_wishOne_47 : decode cX3_wishOne 47 = .ok (.iconst 1, 1) := by decide +kernel
theorem dX3_wishOne_48 : decode cX3_wishOne 48 = .ok (.invokevirtual 120, 3) := by decide +kernel
theorem dX3_wishOne_51 : decode cX3_wishOne 51 = .ok (.return_, 1) := by decide +kernel
theorem dX3_asked_0 : decode cX3_asked 0 = .ok (.aload_n 0, 1) := by decide +kernel
theorem dX3_asked_1 : decode cX3_asked 1 = .ok (.getfield 29, 3) := by decide +kernel
theorem dX3_asked_4 : decode cX3_asked 4 = .ok (.iload_n 1, 1) := by decide +kernel
theorem dX3_asked_5 : decode cX3_asked 5 = .ok (.invokestatic 78, 3) := by decide +kernel
theorem dX3_asked_8 : decode cX3_asked 8 = .ok (.iaload, 1) := by decide +kernel
theorem dX3_asked_9 : decode cX3_asked 9 = .ok (.ireturn, 1) := by decide +kernel
theorem dX3_placeInRow_0 : decode cX3_placeInRow 0 = .ok (.iload_n 0, 1) := by decide +kernel
theorem dX3_placeInRow_1 : decode cX3_placeInRow 1 = .ok (.bipush 24, 2) := by decide +kernel
theorem dX3_placeInRow_3 : decode cX3_placeInRow 3 = .ok (.invokestatic 201, 3) := by decide +kernel
theorem dX3_placeInRow_6 : decode cX3_placeInRow 6 = .ok (.ireturn, 1) := by decide +kernel
theorem dX4_init_0 : decode cX4_init 0 = .ok (.aload_n 0, 1) := by decide +kernel
theorem dX4_init_1 : decode cX4_init 1 = .ok (.invokespecial 1, 3) := by decide +kernel
theorem dX4_init_4 : decode cX4_init 4 = .ok (.aload_n 0, 1) := by decide +kernel
theorem dX4_init_5 : decode cX4_init 5 = .ok (.new 7, 3) := by decide +kernel
theorem dX4_init_8 : decode cX4_init 8 = .ok (.dup, 1) := by decide +kernel
theorem dX4_init_9 : decode cX4_init 9 = .ok (.invokespecial 9, 3) := by decide +kernel
theorem dX4_init_12 : decode cX4_init 12 = .ok (.putfield 10, 3) := by decide +kernel
theorem dX4_init_15 : decode cX4_init 15 = .ok (.aload_n 0, 1) := by decide +kernel
theorem dX4_init_16 : decode cX4_init 16 = .ok (.iconst 2, 1) := by decide +kernel
theorem dX4_init_17 : decode cX4_init 17 = .ok (.anewarray 7, 3) := by decide +kernel
theorem dX4_init_20 : decode cX4_init 20 = .ok (.putfield 16, 3) := by decide +kernel
theorem dX4_init_23 : decode cX4_init 23 = .ok (.aload_n 0, 1) := by decide +kernel
theorem dX4_init_24 : decode cX4_init 24 = .ok (.iconst 2, 1) := by decide +kernel
theorem dX4_init_25 : decode cX4_init 25 = .ok (.newarray .boolean, 2) := by decide +kernel
theorem dX4_init_27 : decode cX4_init 27 = .ok (.putfield 20, 3) := by decide +kernel
theorem dX4_init_30 : decode cX4_init 30 = .ok (.aload_n 0, 1) := by decide +kernel
theorem dX4_init_31 : decode cX4_init 31 = .ok (.new 24, 3) := by decide +kernel
theorem dX4_init_34 : decode cX4_init 34 = .ok (.dup, 1) := by decide +kernel
theorem dX4_init_35 : decode cX4_init 35 = .ok (.invokespecial 26, 3) := by decide +kernel
theorem dX4_init_38 : decode cX4_init 38 = .ok (.putfield 27, 3) := by decide +kernel
theorem dX4_init_41 : decode cX4_init 41 = .ok (.iconst 0, 1) := by decide +kernel
theorem dX4_init_42 : decode cX4_init 42 = .ok (.istore_n 1, 1) := by decide +kernel
theorem dX4_init_43 : decode cX4_init 43 = .ok (.iload_n 1, 1) := by decide +kernel
theorem dX4_init_44 : decode cX4_init 44 = .ok (.iconst 2, 1) := by decide +kernel
theorem dX4_init_45 : decode cX4_init 45 = .ok (.if_icmp .ge 22, 3) := by decide +kernel
theorem dX4_init_48 : decode cX4_init 48 = .ok (.aload_n 0, 1) := by decide +kernel
theorem dX4_init_49 : decode cX4_init 49 = .ok (.getfield 16, 3) := by decide +kernel
theorem dX4_init_52 : decode cX4_init 52 = .ok (.iload_n 1, 1) := by decide +kernel
theorem dX4_init_53 : decode cX4_init 53 = .ok (.new 7, 3) := by decide +kernel
theorem dX4_init_56 : decode cX4_init 56 = .ok (.dup, 1) := by decide +kernel
theorem dX4_init_57 : decode cX4_init 57 = .ok (.invokespecial 9, 3) := by decide +kernel
theorem dX4_init_60 : decode cX4_init 60 = .ok (.aastore, 1) := by decide +kernel
theorem dX4_init_61 : decode cX4_init 61 = .ok (.iinc 1 1, 3) := by decide +kernel
theorem dX4_init_64 : decode cX4_init 64 = .ok (.goto (-21), 3) := by decide +kernel
theorem dX4_init_67 : decode cX4_init 67 = .ok (.return_, 1) := by decide +kernel
theorem dX4_clear_0 : decode cX4_clear 0 = .ok (.iload_n 1, 1) := by decide +kernel
theorem dX4_clear_1 : decode cX4_clear 1 = .ok (.iconst 1, 1) := by decide +kernel
theorem dX4_clear_2 : decode cX4_clear 2 = .ok (.bipush 12, 2) := by decide +kernel
theorem dX4_clear_4 : decode cX4_clear 4 = .ok (.invokestatic 31, 3) := by decide +kernel
theorem dX4_clear_7 : decode cX4_clear 7 = .ok (.ifCond .eq 21, 3) := by decide +kernel
theorem dX4_clear_10 : decode cX4_clear 10 = .ok (.iload_n 2, 1) := by decide +kernel
theorem dX4_clear_11 : decode cX4_clear 11 = .ok (.iconst 1, 1) := by decide +kernel
theorem dX4_clear_12 : decode cX4_clear 12 = .ok (.iconst 3, 1) := by decide +kernel
theorem dX4_clear_13 : decode cX4_clear 13 = .ok (.invokestatic 31, 3) := by decide +kernel
theorem dX4_clear_16 : decode cX4_clear 16 = .ok (.ifCond .eq 12, 3) := by decide +kernel
theorem dX4_clear_19 : decode cX4_clear 19 = .ok (.iload_n 3, 1) := by decide +kernel
theorem dX4_clear_20 : decode cX4_clear 20 = .ok (.iconst 1, 1) := by decide +kernel
theorem dX4_clear_21 : decode cX4_clear 21 = .ok (.iconst 4, 1) := by decide +kernel
theorem dX4_clear_22 : decode cX4_clear 22 = .ok (.invokestatic 31, 3) := by decide +kernel
theorem dX4_clear_25 : decode cX4_clear 25 = .ok (.ifCond .ne 6, 3) := by decide +kernel
theorem dX4_clear_28 : decode cX4_clear 28 = .ok (.bipush (-102), 2) := by decide +kernel
theorem dX4_clear_30 : decode cX4_clear 30 = .ok (.ireturn, 1) := by decide +kernel
theorem dX4_clear_31 : decode cX4_clear 31 = .ok (.aload_n 0, 1) := by decide +kernel
theorem dX4_clear_32 : decode cX4_clear 32 = .ok (.getfield 10, 3) := by decide +kernel
theorem dX4_clear_35 : decode cX4_clear 35 = .ok (.getfield 35, 3) := by decide +kernel
theorem dX4_clear_38 : decode cX4_clear 38 = .ok (.istore 4, 2) := by decide +kernel
theorem dX4_clear_40 : decode cX4_clear 40 = .ok (.aload_n 0, 1) := by decide +kernel
theorem dX4_clear_41 : decode cX4_clear 41 = .ok (.getfield 10, 3) := by decide +kernel
theorem dX4_clear_44 : decode cX4_clear 44 = .ok (.iload_n 1, 1) := by decide +kernel
theorem dX4_clear_45 : decode cX4_clear 45 = .ok (.iload_n 2, 1) := by decide +kernel
theorem dX4_clear_46 : decode cX4_clear 46 = .ok (.iload_n 3, 1) := by decide +kernel
theorem dX4_clear_47 : decode cX4_clear 47 = .ok (.invokevirtual 39, 3) := by decide +kernel
theorem dX4_clear_50 : decode cX4_clear 50 = .ok (.iload 4, 2) := by decide +kernel
theorem dX4_clear_52 : decode cX4_clear 52 = .ok (.ireturn, 1) := by decide +kernel
theorem dX4_share_0 : decode cX4_share 0 = .ok (.iload_n 1, 1) := by decide +kernel
theorem dX4_share_1 : decode cX4_share 1 = .ok (.invokestatic 43, 3) := by decide +kernel
theorem dX4_share_4 : decode cX4_share 4 = .ok (.ifCond .ne 6, 3) := by decide +kernel
theorem dX4_share_7 : decode cX4_share 7 = .ok (.bipush (-101), 2) := by decide +kernel
theorem dX4_share_9 : decode cX4_share 9 = .ok (.ireturn, 1) := by decide +kernel
theorem dX4_share_10 : decode cX4_share 10 = .ok (.iload_n 2, 1) := by decide +kernel
theorem dX4_share_11 : decode cX4_share 11 = .ok (.iconst 0, 1) := by decide +kernel
theorem dX4_share_12 : decode cX4_share 12 = .ok (.bipush 12, 2) := by decide +kernel
theorem dX4_share_14 : decode cX4_share 14 = .ok (.invokestatic 31, 3) := by decide +kernel
theorem dX4_share_17 : decode cX4_share 17 = .ok (.ifCond .ne 6, 3) := by decide +kernel
theorem dX4_share_20 : decode cX4_share 20 = .ok (.bipush (-102), 2) := by decide +kernel
theorem dX4_share_22 : decode cX4_share 22 = .ok (.ireturn, 1) := by decide +kernel
theorem dX4_share_23 : decode cX4_share 23 = .ok (.aload_n 0, 1) := by decide +kernel
theorem dX4_share_24 : decode cX4_share 24 = .ok (.getfield 10, 3) := by decide +kernel
theorem dX4_share_27 : decode cX4_share 27 = .ok (.getfield 47, 3) := by decide +kernel
theorem dX4_share_30 : decode cX4_share 30 = .ok (.iload_n 1, 1) := by decide +kernel
theorem dX4_share_31 : decode cX4_share 31 = .ok (.aaload, 1) := by decide +kernel
theorem dX4_share_32 : decode cX4_share 32 = .ok (.getfield 51, 3) := by decide +kernel
theorem dX4_share_35 : decode cX4_share 35 = .ok (.istore_n 3, 1) := by decide +kernel
theorem dX4_share_36 : decode cX4_share 36 = .ok (.aload_n 0, 1) := by decide +kernel
theorem dX4_share_37 : decode cX4_share 37 = .ok (.bipush 8, 2) := by decide +kernel
theorem dX4_share_39 : decode cX4_share 39 = .ok (.invokevirtual 56, 3) := by decide +kernel
theorem dX4_share_42 : decode cX4_share 42 = .ok (.iload_n 3, 1) := by decide +kernel
theorem dX4_share_43 : decode cX4_share 43 = .ok (.isub, 1) := by decide +kernel
theorem dX4_share_44 : decode cX4_share 44 = .ok (.iload_n 2, 1) := by decide +kernel
theorem dX4_share_45 : decode cX4_share 45 = .ok (.iadd, 1) := by decide +kernel
theorem dX4_share_46 : decode cX4_share 46 = .ok (.aload_n 0, 1) := by decide +kernel
theorem dX4_share_47 : decode cX4_share 47 = .ok (.getfield 10, 3) := by decide +kernel
theorem dX4_share_50 : decode cX4_share 50 = .ok (.getfield 60, 3) := by decide +kernel
theorem dX4_share_53 : decode cX4_share 53 = .ok (.if_icmp .le 6, 3) := by decide +kernel
theorem dX4_share_56 : decode cX4_share 56 = .ok (.bipush (-103), 2) := by decide +kernel
theorem dX4_share_58 : decode cX4_share 58 = .ok (.ireturn, 1) := by decide +kernel
theorem dX4_share_59 : decode cX4_share 59 = .ok (.aload_n 0, 1) := by decide +kernel
theorem dX4_share_60 : decode cX4_share 60 = .ok (.getfield 10, 3) := by decide +kernel
theorem dX4_share_63 : decode cX4_share 63 = .ok (.getfield 47, 3) := by decide +kernel
theorem dX4_share_66 : decode cX4_share 66 = .ok (.iload_n 1, 1) := by decide +kernel
theorem dX4_share_67 : decode cX4_share 67 = .ok (.aaload, 1) := by decide +kernel
theorem dX4_share_68 : decode cX4_share 68 = .ok (.iload_n 2, 1) := by decide +kernel
theorem dX4_share_69 : decode cX4_share 69 = .ok (.putfield 51, 3) := by decide +kernel
theorem dX4_share_72 : decode cX4_share 72 = .ok (.iload_n 3, 1) := by decide +kernel
theorem dX4_share_73 : decode cX4_share 73 = .ok (.ireturn, 1) := by decide +kernel
theorem dX4_kind_0 : decode cX4_kind 0 = .ok (.iload_n 1, 1) := by decide +kernel
theorem dX4_kind_1 : decode cX4_kind 1 = .ok (.invokestatic 43, 3) := by decide +kernel
theorem dX4_kind_4 : decode cX4_kind 4 = .ok (.ifCond .ne 6, 3) := by decide +kernel
theorem dX4_kind_7 : decode cX4_kind 7 = .ok (.bipush (-101), 2) := by decide +kernel
theorem dX4_kind_9 : decode cX4_kind 9 = .ok (.ireturn, 1) := by decide +kernel
theorem dX4_kind_10 : decode cX4_kind 10 = .ok (.iload_n 2, 1) := by decide +kernel
theorem dX4_kind_11 : decode cX4_kind 11 = .ok (.iconst 0, 1) := by decide +kernel
theorem dX4_kind_12 : decode cX4_kind 12 = .ok (.iconst 5, 1) := by decide +kernel
theorem dX4_kind_13 : decode cX4_kind 13 = .ok (.invokestatic 31, 3) := by decide +kernel
theorem dX4_kind_16 : decode cX4_kind 16 = .ok (.ifCond .eq 13, 3) := by decide +kernel
theorem dX4_kind_19 : decode cX4_kind 19 = .ok (.iload_n 3, 1) := by decide +kernel
theorem dX4_kind_20 : decode cX4_kind 20 = .ok (.iconst 0, 1) := by decide +kernel
theorem dX4_kind_21 : decode cX4_kind 21 = .ok (.bipush 8, 2) := by decide +kernel
theorem dX4_kind_23 : decode cX4_kind 23 = .ok (.invokestatic 31, 3) := by decide +kernel
theorem dX4_kind_26 : decode cX4_kind 26 = .ok (.ifCond .ne 6, 3) := by decide +kernel
theorem dX4_kind_29 : decode cX4_kind 29 = .ok (.bipush (-102), 2) := by decide +kernel
theorem dX4_kind_31 : decode cX4_kind 31 = .ok (.ireturn, 1) := by decide +kernel
theorem dX4_kind_32 : decode cX4_kind 32 = .ok (.aload_n 0, 1) := by decide +kernel
theorem dX4_kind_33 : decode cX4_kind 33 = .ok (.getfield 10, 3) := by decide +kernel
theorem dX4_kind_36 : decode cX4_kind 36 = .ok (.getfield 47, 3) := by decide +kernel
theorem dX4_kind_39 : decode cX4_kind 39 = .ok (.iload_n 1, 1) := by decide +kernel
theorem dX4_kind_40 : decode cX4_kind 40 = .ok (.aaload, 1) := by decide +kernel
theorem dX4_kind_41 : decode cX4_kind 41 = .ok (.getfield 63, 3) := by decide +kernel
theorem dX4_kind_44 : decode cX4_kind 44 = .ok (.istore 4, 2) := by decide +kernel
theorem dX4_kind_46 : decode cX4_kind 46 = .ok (.aload_n 0, 1) := by decide +kernel
theorem dX4_kind_47 : decode cX4_kind 47 = .ok (.getfield 10, 3) := by decide +kernel
theorem dX4_kind_50 : decode cX4_kind 50 = .ok (.getfield 47, 3) := by decide +kernel
theorem dX4_kind_53 : decode cX4_kind 53 = .ok (.iload_n 1, 1) := by decide +kernel
theorem dX4_kind_54 : decode cX4_kind 54 = .ok (.aaload, 1) := by decide +kernel
theorem dX4_kind_55 : decode cX4_kind 55 = .ok (.iload_n 2, 1) := by decide +kernel
theorem dX4_kind_56 : decode cX4_kind 56 = .ok (.iload_n 3, 1) := by decide +kernel
theorem dX4_kind_57 : decode cX4_kind 57 = .ok (.invokevirtual 66, 3) := by decide +kernel
theorem dX4_kind_60 : decode cX4_kind 60 = .ok (.iload 4, 2) := by decide +kernel
theorem dX4_kind_62 : decode cX4_kind 62 = .ok (.ireturn, 1) := by decide +kernel
theorem dX4_hint_0 : decode cX4_hint 0 = .ok (.iload_n 1, 1) := by decide +kernel
theorem dX4_hint_1 : decode cX4_hint 1 = .ok (.invokestatic 43, 3) := by decide +kernel
theorem dX4_hint_4 : decode cX4_hint 4 = .ok (.ifCond .ne 6, 3) := by decide +kernel
theorem dX4_hint_7 : decode cX4_hint 7 = .ok (.bipush (-101), 2) := by decide +kernel
theorem dX4_hint_9 : decode cX4_hint 9 = .ok (.ireturn, 1) := by decide +kernel
theorem dX4_hint_10 : decode cX4_hint 10 = .ok (.iload_n 2, 1) := by decide +kernel
theorem dX4_hint_11 : decode cX4_hint 11 = .ok (.invokestatic 70, 3) := by decide +kernel
theorem dX4_hint_14 : decode cX4_hint 14 = .ok (.ifCond .eq 15, 3) := by decide +kernel
theorem dX4_hint_17 : decode cX4_hint 17 = .ok (.iload_n 3, 1) := by decide +kernel
theorem dX4_hint_18 : decode cX4_hint 18 = .ok (.invokestatic 70, 3) := by decide +kernel
theorem dX4_hint_21 : decode cX4_hint 21 = .ok (.ifCond .eq 8, 3) := by decide +kernel
theorem dX4_hint_24 : decode cX4_hint 24 = .ok (.iload_n 2, 1) := by decide +kernel
theorem dX4_hint_25 : decode cX4_hint 25 = .ok (.iload_n 3, 1) := by decide +kernel
theorem dX4_hint_26 : decode cX4_hint 26 = .ok (.if_icmp .le 6, 3) := by decide +kernel
theorem dX4_hint_29 : decode cX4_hint 29 = .ok (.bipush (-102), 2) := by decide +kernel
theorem dX4_hint_31 : decode cX4_hint 31 = .ok (.ireturn, 1) := by decide +kernel
theorem dX4_hint_32 : decode cX4_hint 32 = .ok (.aload_n 0, 1) := by decide +kernel
theorem dX4_hint_33 : decode cX4_hint 33 = .ok (.getfield 10, 3) := by decide +kernel
theorem dX4_hint_36 : decode cX4_hint 36 = .ok (.getfield 47, 3) := by decide +kernel
theorem dX4_hint_39 : decode cX4_hint 39 = .ok (.iload_n 1, 1) := by decide +kernel
theorem dX4_hint_40 : decode cX4_hint 40 = .ok (.aaload, 1) := by decide +kernel
theorem dX4_hint_41 : decode cX4_hint 41 = .ok (.astore 4, 2) := by decide +kernel
theorem dX4_hint_43 : decode cX4_hint 43 = .ok (.aload 4, 2) := by decide +kernel
theorem dX4_hint_45 : decode cX4_hint 45 = .ok (.getfield 63, 3) := by decide +kernel
theorem dX4_hint_48 : decode cX4_hint 48 = .ok (.iconst 4, 1) := by decide +kernel
theorem dX4_hint_49 : decode cX4_hint 49 = .ok (.if_icmp .eq 6, 3) := by decide +kernel
theorem dX4_hint_52 : decode cX4_hint 52 = .ok (.bipush (-103), 2) := by decide +kernel
theorem dX4_hint_54 : decode cX4_hint 54 = .ok (.ireturn, 1) := by decide +kernel
theorem dX4_hint_55 : decode cX4_hint 55 = .ok (.aload 4, 2) := by decide +kernel
theorem dX4_hint_57 : decode cX4_hint 57 = .ok (.iload_n 2, 1) := by decide +kernel
theorem dX4_hint_58 : decode cX4_hint 58 = .ok (.putfield 73, 3) := by decide +kernel
theorem dX4_hint_61 : decode cX4_hint 61 = .ok (.aload 4, 2) := by decide +kernel
theorem dX4_hint_63 : decode cX4_hint 63 = .ok (.iload_n 3, 1) := by decide +kernel
theorem dX4_hint_64 : decode cX4_hint 64 = .ok (.putfield 76, 3) := by decide +kernel
theorem dX4_hint_67 : decode cX4_hint 67 = .ok (.iconst 1, 1) := by decide +kernel
theorem dX4_hint_68 : decode cX4_hint 68 = .ok (.ireturn, 1) := by decide +kernel
theorem dX4_ask_0 : decode cX4_ask 0 = .ok (.iload_n 1, 1) := by decide +kernel
theorem dX4_ask_1 : decode cX4_ask 1 = .ok (.invokestatic 43, 3) := by decide +kernel
theorem dX4_ask_4 : decode cX4_ask 4 = .ok (.ifCond .ne 6, 3) := by decide +kernel
theorem dX4_ask_7 : decode cX4_ask 7 = .ok (.bipush (-101), 2) := by decide +kernel
theorem dX4_ask_9 : decode cX4_ask 9 = .ok (.ireturn, 1) := by decide +kernel
theorem dX4_ask_10 : decode cX4_ask 10 = .ok (.iload_n 2, 1) := by decide +kernel
theorem dX4_ask_11 : decode cX4_ask 11 = .ok (.invokestatic 70, 3) := by decide +kernel
theorem dX4_ask_14 : decode cX4_ask 14 = .ok (.ifCond .ne 6, 3) := by decide +kernel
theorem dX4_ask_17 : decode cX4_ask 17 = .ok (.bipush (-102), 2) := by decide +kernel
theorem dX4_ask_19 : decode cX4_ask 19 = .ok (.ireturn, 1) := by decide +kernel
theorem dX4_ask_20 : decode cX4_ask 20 = .ok (.aload_n 0, 1) := by decide +kernel
theorem dX4_ask_21 : decode cX4_ask 21 = .ok (.getfield 10, 3) := by decide +kernel
theorem dX4_ask_24 : decode cX4_ask 24 = .ok (.iload_n 1, 1) := by decide +kernel
theorem dX4_ask_25 : decode cX4_ask 25 = .ok (.iload_n 2, 1) := by decide +kernel
theorem dX4_ask_26 : decode cX4_ask 26 = .ok (.invokevirtual 79, 3) := by decide +kernel
theorem dX4_ask_29 : decode cX4_ask 29 = .ok (.ireturn, 1) := by decide +kernel
theorem dX4_idle_0 : decode cX4_idle 0 = .ok (.iload_n 1, 1) := by decide +kernel
theorem dX4_idle_1 : decode cX4_idle 1 = .ok (.iconst 0, 1) := by decide +kernel
theorem dX4_idle_2 : decode cX4_idle 2 = .ok (.bipush 64, 2) := by decide +kernel
theorem dX4_idle_4 : decode cX4_idle 4 = .ok (.invokestatic 31, 3) := by decide +kernel
theorem dX4_idle_7 : decode cX4_idle 7 = .ok (.ifCond .ne 6, 3) := by decide +kernel
theorem dX4_idle_10 : decode cX4_idle 10 = .ok (.bipush (-102), 2) := by decide +kernel
theorem dX4_idle_12 : decode cX4_idle 12 = .ok (.ireturn, 1) := by decide +kernel
theorem dX4_idle_13 : decode cX4_idle 13 = .ok (.iconst 0, 1) := by decide +kernel
theorem dX4_idle_14 : decode cX4_idle 14 = .ok (.istore_n 2, 1) := by decide +kernel
theorem dX4_idle_15 : decode cX4_idle 15 = .ok (.iconst 0, 1) := by decide +kernel
theorem dX4_idle_16 : decode cX4_idle 16 = .ok (.istore_n 3, 1) := by decide +kernel
theorem dX4_idle_17 : decode cX4_idle 17 = .ok (.iload_n 3, 1) := by decide +kernel
theorem dX4_idle_18 : decode cX4_idle 18 = .ok (.iload_n 1, 1) := by decide +kernel
theorem dX4_idle_19 : decode cX4_idle 19 = .ok (.if_icmp .ge 21, 3) := by decide +kernel
theorem dX4_idle_22 : decode cX4_idle 22 = .ok (.iload_n 2, 1) := by decide +kernel
theorem dX4_idle_23 : decode cX4_idle 23 = .ok (.aload_n 0, 1) := by decide +kernel
theorem dX4_idle_24 : decode cX4_idle 24 = .ok (.getfield 10, 3) := by decide +kernel
theorem dX4_idle_27 : decode cX4_idle 27 = .ok (.iconst (-1), 1) := by decide +kernel
theorem dX4_idle_28 : decode cX4_idle 28 = .ok (.iconst (-1), 1) := by decide +kernel
theorem dX4_idle_29 : decode cX4_idle 29 = .ok (.invokevirtual 83, 3) := by decide +kernel
theorem dX4_idle_32 : decode cX4_idle 32 = .ok (.iadd, 1) := by decide +kernel
theorem dX4_idle_33 : decode cX4_idle 33 = .ok (.istore_n 2, 1) := by decide +kernel
theorem dX4_idle_34 : decode cX4_idle 34 = .ok (.iinc 3 1, 3) := by decide +kernel
theorem dX4_idle_37 : decode cX4_idle 37 = .ok (.goto (-20), 3) := by decide +kernel
theorem dX4_idle_40 : decode cX4_idle 40 = .ok (.iload_n 2, 1) := by decide +kernel
theorem dX4_idle_41 : decode cX4_idle 41 = .ok (.ireturn, 1) := by decide +kernel
theorem dX4_told_0 : decode cX4_told 0 = .ok (.iload_n 1, 1) := by decide +kernel
theorem dX4_told_1 : decode cX4_told 1 = .ok (.iconst (-1), 1) := by decide +kernel
theorem dX4_told_2 : decode cX4_told 2 = .ok (.if_icmp .eq 13, 3) := by decide +kernel
theorem dX4_told_5 : decode cX4_told 5 = .ok (.iload_n 1, 1) := by decide +kernel
theorem dX4_told_6 : decode cX4_told 6 = .ok (.invokestatic 43, 3) := by decide +kernel
theorem dX4_told_9 : decode cX4_told 9 = .ok (.ifCond .ne 6, 3) := by decide +kernel
theorem dX4_told_12 : decode cX4_told 12 = .ok (.bipush (-101), 2) := by decide +kernel
theorem dX4_told_14 : decode cX4_told 14 = .ok (.ireturn, 1) := by decide +kernel
theorem dX4_told_15 : decode cX4_told 15 = .ok (.iload_n 2, 1) := by decide +kernel
theorem dX4_told_16 : decode cX4_told 16 = .ok (.iconst 0, 1) := by decide +kernel
theorem dX4_told_17 : decode cX4_told 17 = .ok (.bipush 9, 2) := by decide +kernel
theorem dX4_told_19 : decode cX4_told 19 = .ok (.invokestatic 31, 3) := by decide +kernel
theorem dX4_told_22 : decode cX4_told 22 = .ok (.ifCond .ne 6, 3) := by decide +kernel
theorem dX4_told_25 : decode cX4_told 25 = .ok (.bipush (-102), 2) := by decide +kernel
theorem dX4_told_27 : decode cX4_told 27 = .ok (.ireturn, 1) := by decide +kernel
theorem dX4_told_28 : decode cX4_told 28 = .ok (.iload_n 1, 1) := by decide +kernel
theorem dX4_told_29 : decode cX4_told 29 = .ok (.iconst (-1), 1) := by decide +kernel
theorem dX4_told_30 : decode cX4_told 30 = .ok (.if_icmp .ne 11, 3) := by decide +kernel
theorem dX4_told_33 : decode cX4_told 33 = .ok (.aload_n 0, 1) := by decide +kernel
theorem dX4_told_34 : decode cX4_told 34 = .ok (.iload_n 2, 1) := by decide +kernel
theorem dX4_told_35 : decode cX4_told 35 = .ok (.invokevirtual 56, 3) := by decide +kernel
theorem dX4_told_38 : decode cX4_told 38 = .ok (.goto 9, 3) := by decide +kernel
theorem dX4_told_41 : decode cX4_told 41 = .ok (.aload_n 0, 1) := by decide +kernel
theorem dX4_told_42 : decode cX4_told 42 = .ok (.iload_n 1, 1) := by decide +kernel
theorem dX4_told_43 : decode cX4_told 43 = .ok (.iload_n 2, 1) := by decide +kernel
theorem dX4_told_44 : decode cX4_told 44 = .ok (.invokevirtual 86, 3) := by decide +kernel
theorem dX4_told_47 : decode cX4_told 47 = .ok (.ireturn, 1) := by decide +kernel
theorem dX4_reach_0 : decode cX4_reach 0 = .ok (.iload_n 1, 1) := by decide +kernel
theorem dX4_reach_1 : decode cX4_reach 1 = .ok (.invokestatic 43, 3) := by decide +kernel
theorem dX4_reach_4 : decode cX4_reach 4 = .ok (.ifCond .eq 18, 3) := by decide +kernel
theorem dX4_reach_7 : decode cX4_reach 7 = .ok (.aload_n 0, 1) := by decide +kernel
theorem dX4_reach_8 : decode cX4_reach 8 = .ok (.getfield 10, 3) := by decide +kernel
theorem dX4_reach_11 : decode cX4_reach 11 = .ok (.getfield 47, 3) := by decide +kernel
theorem dX4_reach_14 : decode cX4_reach 14 = .ok (.iload_n 1, 1) := by decide +kernel
theorem dX4_reach_15 : decode cX4_reach 15 = .ok (.aaload, 1) := by decide +kernel
theorem dX4_reach_16 : decode cX4_reach 16 = .ok (.getfield 89, 3) := by decide +kernel
theorem dX4_reach_19 : decode cX4_reach 19 = .ok (.goto 5, 3) := by decide +kernel
theorem dX4_reach_22 : decode cX4_reach 22 = .ok (.bipush (-101), 2) := by decide +kernel
theorem dX4_reach_24 : decode cX4_reach 24 = .ok (.ireturn, 1) := by decide +kernel
theorem dX4_room_0 : decode cX4_room 0 = .ok (.iload_n 2, 1) := by decide +kernel
theorem dX4_room_1 : decode cX4_room 1 = .ok (.iconst 0, 1) := by decide +kernel
theorem dX4_room_2 : decode cX4_room 2 = .ok (.iconst 3, 1) := by decide +kernel
theorem dX4_room_3 : decode cX4_room 3 = .ok (.invokestatic 31, 3) := by decide +kernel
theorem dX4_room_6 : decode cX4_room 6 = .ok (.ifCond .ne 6, 3) := by decide +kernel
theorem dX4_room_9 : decode cX4_room 9 = .ok (.bipush (-102), 2) := by decide +kernel
theorem dX4_room_11 : decode cX4_room 11 = .ok (.ireturn, 1) := by decide +kernel
theorem dX4_room_12 : decode cX4_room 12 = .ok (.aload_n 0, 1) := by decide +kernel
theorem dX4_room_13 : decode cX4_room 13 = .ok (.getfield 10, 3) := by decide +kernel
theorem dX4_room_16 : decode cX4_room 16 = .ok (.getfield 92, 3) := by decide +kernel
theorem dX4_room_19 : decode cX4_room 19 = .ok (.astore_n 3, 1) := by decide +kernel
theorem dX4_room_20 : decode cX4_room 20 = .ok (.iload_n 1, 1) := by decide +kernel
theorem dX4_room_21 : decode cX4_room 21 = .ok (.iconst 0, 1) := by decide +kernel
theorem dX4_room_22 : decode cX4_room 22 = .ok (.aload_n 3, 1) := by decide +kernel
theorem dX4_room_23 : decode cX4_room 23 = .ok (.getfield 96, 3) := by decide +kernel
theorem dX4_room_26 : decode cX4_room 26 = .ok (.iconst 1, 1) := by decide +kernel
theorem dX4_room_27 : decode cX4_room 27 = .ok (.isub, 1) := by decide +kernel
theorem dX4_room_28 : decode cX4_room 28 = .ok (.invokestatic 31, 3) := by decide +kernel
theorem dX4_room_31 : decode cX4_room 31 = .ok (.ifCond .ne 5, 3) := by decide +kernel
theorem dX4_room_34 : decode cX4_room 34 = .ok (.iconst (-1), 1) := by decide +kernel
theorem dX4_room_35 : decode cX4_room 35 = .ok (.ireturn, 1) := by decide +kernel
theorem dX4_room_36 : decode cX4_room 36 = .ok (.iload_n 2, 1) := by decide +kernel
theorem dX4_room_37 : decode cX4_room 37 = .ok (.tableswitch 48 0 2 #[27, 34, 41], 27) := by decide +kernel
theorem dX4_room_64 : decode cX4_room 64 = .ok (.aload_n 3, 1) := by decide +kernel
theorem dX4_room_65 : decode cX4_room 65 = .ok (.getfield 101, 3) := by decide +kernel
theorem dX4_room_68 : decode cX4_room 68 = .ok (.iload_n 1, 1) := by decide +kernel
theorem dX4_room_69 : decode cX4_room 69 = .ok (.iaload, 1) := by decide +kernel
theorem dX4_room_70 : decode cX4_room 70 = .ok (.ireturn, 1) := by decide +kernel
theorem dX4_room_71 : decode cX4_room 71 = .ok (.aload_n 3, 1) := by decide +kernel
theorem dX4_room_72 : decode cX4_room 72 = .ok (.getfield 105, 3) := by decide +kernel
theorem dX4_room_75 : decode cX4_room 75 = .ok (.iload_n 1, 1) := by decide +kernel
theorem dX4_room_76 : decode cX4_room 76 = .ok (.iaload, 1) := by decide +kernel
theorem dX4_room_77 : decode cX4_room 77 = .ok (.ireturn, 1) := by decide +kernel
theorem dX4_room_78 : decode cX4_room 78 = .ok (.aload_n 3, 1) := by decide +kernel
theorem dX4_room_79 : decode cX4_room 79 = .ok (.getfield 108, 3) := by decide +kernel
theorem dX4_room_82 : decode cX4_room 82 = .ok (.iload_n 1, 1) := by decide +kernel
theorem dX4_room_83 : decode cX4_room 83 = .ok (.iaload, 1) := by decide +kernel
theorem dX4_room_84 : decode cX4_room 84 = .ok (.ireturn, 1) := by decide +kernel
theorem dX4_room_85 : decode cX4_room 85 = .ok (.aload_n 0, 1) := by decide +kernel
theorem dX4_room_86 : decode cX4_room 86 = .ok (.getfield 10, 3) := by decide +kernel
theorem dX4_room_89 : decode cX4_room 89 = .ok (.getfield 47, 3) := by decide +kernel
theorem dX4_room_92 : decode cX4_room 92 = .ok (.aload_n 3, 1) := by decide +kernel
theorem dX4_room_93 : decode cX4_room 93 = .ok (.getfield 105, 3) := by decide +kernel
theorem dX4_room_96 : decode cX4_room 96 = .ok (.iload_n 1, 1) := by decide +kernel
theorem dX4_room_97 : decode cX4_room 97 = .ok (.iaload, 1) := by decide +kernel
theorem dX4_room_98 : decode cX4_room 98 = .ok (.aaload, 1) := by decide +kernel
theorem dX4_room_99 : decode cX4_room 99 = .ok (.aload_n 3, 1) := by decide +kernel
theorem dX4_room_100 : decode cX4_room 100 = .ok (.getfield 101, 3) := by decide +kernel
theorem dX4_room_103 : decode cX4_room 103 = .ok (.iload_n 1, 1) := by decide +kernel
theorem dX4_room_104 : decode cX4_room 104 = .ok (.iaload, 1) := by decide +kernel
theorem dX4_room_105 : decode cX4_room 105 = .ok (.invokevirtual 111, 3) := by decide +kernel
theorem dX4_room_108 : decode cX4_room 108 = .ok (.ifCond .eq 7, 3) := by decide +kernel
theorem dX4_room_111 : decode cX4_room 111 = .ok (.iconst 1, 1) := by decide +kernel
theorem dX4_room_112 : decode cX4_room 112 = .ok (.goto 4, 3) := by decide +kernel
theorem dX4_room_115 : decode cX4_room 115 = .ok (.iconst 0, 1) := by decide +kernel
theorem dX4_room_116 : decode cX4_room 116 = .ok (.ireturn, 1) := by decide +kernel
theorem dX4_waiting_0 : decode cX4_waiting 0 = .ok (.iload_n 2, 1) := by decide +kernel
theorem dX4_waiting_1 : decode cX4_waiting 1 = .ok (.iconst 0, 1) := by decide +kernel
theorem dX4_waiting_2 : decode cX4_waiting 2 = .ok (.iconst 1, 1) := by decide +kernel
theorem dX4_waiting_3 : decode cX4_waiting 3 = .ok (.invokestatic 31, 3) := by decide +kernel
theorem dX4_waiting_6 : decode cX4_waiting 6 = .ok (.ifCond .ne 6, 3) := by decide +kernel
theorem dX4_waiting_9 : decode cX4_waiting 9 = .ok (.bipush (-102), 2) := by decide +kernel
theorem dX4_waiting_11 : decode cX4_waiting 11 = .ok (.ireturn, 1) := by decide +kernel
theorem dX4_waiting_12 : decode cX4_waiting 12 = .ok (.aload_n 0, 1) := by decide +kernel
theorem dX4_waiting_13 : decode cX4_waiting 13 = .ok (.getfield 10, 3) := by decide +kernel
theorem dX4_waiting_16 : decode cX4_waiting 16 = .ok (.getfield 114, 3) := by decide +kernel
theorem dX4_waiting_19 : decode cX4_waiting 19 = .ok (.astore_n 3, 1) := by decide +kernel
theorem dX4_waiting_20 : decode cX4_waiting 20 = .ok (.iload_n 1, 1) := by decide +kernel
theorem dX4_waiting_21 : decode cX4_waiting 21 = .ok (.iconst 0, 1) := by decide +kernel
theorem dX4_waiting_22 : decode cX4_waiting 22 = .ok (.aload_n 3, 1) := by decide +kernel
theorem dX4_waiting_23 : decode cX4_waiting 23 = .ok (.getfield 96, 3) := by decide +kernel
theorem dX4_waiting_26 : decode cX4_waiting 26 = .ok (.iconst 1, 1) := by decide +kernel
theorem dX4_waiting_27 : decode cX4_waiting 27 = .ok (.isub, 1) := by decide +kernel
theorem dX4_waiting_28 : decode cX4_waiting 28 = .ok (.invokestatic 31, 3) := by decide +kernel
theorem dX4_waiting_31 : decode cX4_waiting 31 = .ok (.ifCond .ne 5, 3) := by decide +kernel
theorem dX4_waiting_34 : decode cX4_waiting 34 = .ok (.iconst (-1), 1) := by decide +kernel
theorem dX4_waiting_35 : decode cX4_waiting 35 = .ok (.ireturn, 1) := by decide +kernel
theorem dX4_waiting_36 : decode cX4_waiting 36 = .ok (.iload_n 2, 1) := by decide +kernel
theorem dX4_waiting_37 : decode cX4_waiting 37 = .ok (.ifCond .ne 12, 3) := by decide +kernel
theorem dX4_waiting_40 : decode cX4_waiting 40 = .ok (.aload_n 3, 1) := by decide +kernel
theorem dX4_waiting_41 : decode cX4_waiting 41 = .ok (.getfield 101, 3) := by decide +kernel
theorem dX4_waiting_44 : decode cX4_waiting 44 = .ok (.iload_n 1, 1) := by decide +kernel
theorem dX4_waiting_45 : decode cX4_waiting 45 = .ok (.iaload, 1) := by decide +kernel
theorem dX4_waiting_46 : decode cX4_waiting 46 = .ok (.goto 9, 3) := by decide +kernel
theorem dX4_waiting_49 : decode cX4_waiting 49 = .ok (.aload_n 3, 1) := by decide +kernel
theorem dX4_waiting_50 : decode cX4_waiting 50 = .ok (.getfield 105, 3) := by decide +kernel
theorem dX4_waiting_53 : decode cX4_waiting 53 = .ok (.iload_n 1, 1) := by decide +kernel
theorem dX4_waiting_54 : decode cX4_waiting 54 = .ok (.iaload, 1) := by decide +kernel
theorem dX4_waiting_55 : decode cX4_waiting 55 = .ok (.ireturn, 1) := by decide +kernel
theorem dX4_follows_0 : decode cX4_follows 0 = .ok (.iload_n 1, 1) := by decide +kernel
theorem dX4_follows_1 : decode cX4_follows 1 = .ok (.invokestatic 43, 3) := by decide +kernel
theorem dX4_follows_4 : decode cX4_follows 4 = .ok (.ifCond .ne 6, 3) := by decide +kernel
theorem dX4_follows_7 : decode cX4_follows 7 = .ok (.bipush (-101), 2) := by decide +kernel
theorem dX4_follows_9 : decode cX4_follows 9 = .ok (.ireturn, 1) := by decide +kernel
theorem dX4_follows_10 : decode cX4_follows 10 = .ok (.iload_n 2, 1) := by decide +kernel
theorem dX4_follows_11 : decode cX4_follows 11 = .ok (.invokestatic 70, 3) := by decide +kernel
theorem dX4_follows_14 : decode cX4_follows 14 = .ok (.ifCond .eq 20, 3) := by decide +kernel
theorem dX4_follows_17 : decode cX4_follows 17 = .ok (.aload_n 0, 1) := by decide +kernel
theorem dX4_follows_18 : decode cX4_follows 18 = .ok (.getfield 10, 3) := by decide +kernel
theorem dX4_follows_21 : decode cX4_follows 21 = .ok (.getfield 47, 3) := by decide +kernel
theorem dX4_follows_24 : decode cX4_follows 24 = .ok (.iload_n 1, 1) := by decide +kernel
theorem dX4_follows_25 : decode cX4_follows 25 = .ok (.aaload, 1) := by decide +kernel
theorem dX4_follows_26 : decode cX4_follows 26 = .ok (.getfield 117, 3) := by decide +kernel
theorem dX4_follows_29 : decode cX4_follows 29 = .ok (.iload_n 2, 1) := by decide +kernel
theorem dX4_follows_30 : decode cX4_follows 30 = .ok (.iaload, 1) := by decide +kernel
theorem dX4_follows_31 : decode cX4_follows 31 = .ok (.goto 5, 3) := by decide +kernel
theorem dX4_follows_34 : decode cX4_follows 34 = .ok (.bipush (-102), 2) := by decide +kernel
theorem dX4_follows_36 : decode cX4_follows 36 = .ok (.ireturn, 1) := by decide +kernel
theorem dX4_house_0 : decode cX4_house 0 = .ok (.iload_n 1, 1) := by decide +kernel
theorem dX4_house_1 : decode cX4_house 1 = .ok (.tableswitch 117 0 7 #[47, 55, 63, 71, 79, 90, 101, 109], 47) := by decide +kernel
theorem dX4_house_48 : decode cX4_house 48 = .ok (.aload_n 0, 1) := by decide +kernel
theorem dX4_house_49 : decode cX4_house 49 = .ok (.getfield 10, 3) := by decide +kernel
theorem dX4_house_52 : decode cX4_house 52 = .ok (.getfield 120, 3) := by decide +kernel
theorem dX4_house_55 : decode cX4_house 55 = .ok (.ireturn, 1) := by decide +kernel
theorem dX4_house_56 : decode cX4_house 56 = .ok (.aload_n 0, 1) := by decide +kernel
theorem dX4_house_57 : decode cX4_house 57 = .ok (.getfield 10, 3) := by decide +kernel
theorem dX4_house_60 : decode cX4_house 60 = .ok (.getfield 123, 3) := by decide +kernel
theorem dX4_house_63 : decode cX4_house 63 = .ok (.ireturn, 1) := by decide +kernel
theorem dX4_house_64 : decode cX4_house 64 = .ok (.aload_n 0, 1) := by decide +kernel
theorem dX4_house_65 : decode cX4_house 65 = .ok (.getfield 10, 3) := by decide +kernel
theorem dX4_house_68 : decode cX4_house 68 = .ok (.getfield 60, 3) := by decide +kernel
theorem dX4_house_71 : decode cX4_house 71 = .ok (.ireturn, 1) := by decide +kernel
theorem dX4_house_72 : decode cX4_house 72 = .ok (.aload_n 0, 1) := by decide +kernel
theorem dX4_house_73 : decode cX4_house 73 = .ok (.getfield 10, 3) := by decide +kernel
theorem dX4_house_76 : decode cX4_house 76 = .ok (.getfield 126, 3) := by decide +kernel
theorem dX4_house_79 : decode cX4_house 79 = .ok (.ireturn, 1) := by decide +kernel
theorem dX4_house_80 : decode cX4_house 80 = .ok (.aload_n 0, 1) := by decide +kernel
theorem dX4_house_81 : decode cX4_house 81 = .ok (.getfield 10, 3) := by decide +kernel
theorem dX4_house_84 : decode cX4_house 84 = .ok (.getfield 92, 3) := by decide +kernel
theorem dX4_house_87 : decode cX4_house 87 = .ok (.getfield 96, 3) := by decide +kernel
theorem dX4_house_90 : decode cX4_house 90 = .ok (.ireturn, 1) := by decide +kernel
theorem dX4_house_91 : decode cX4_house 91 = .ok (.aload_n 0, 1) := by decide +kernel
theorem dX4_house_92 : decode cX4_house 92 = .ok (.getfield 10, 3) := by decide +kernel
theorem dX4_house_95 : decode cX4_house 95 = .ok (.getfield 114, 3) := by decide +kernel
theorem dX4_house_98 : decode cX4_house 98 = .ok (.getfield 96, 3) := by decide +kernel
theorem dX4_house_101 : decode cX4_house 101 = .ok (.ireturn, 1) := by decide +kernel
theorem dX4_house_102 : decode cX4_house 102 = .ok (.aload_n 0, 1) := by decide +kernel
theorem dX4_house_103 : decode cX4_house 103 = .ok (.getfield 10, 3) := by decide +kernel
theorem dX4_house_106 : decode cX4_house 106 = .ok (.getfield 129, 3) := by decide +kernel
theorem dX4_house_109 : decode cX4_house 109 = .ok (.ireturn, 1) := by decide +kernel
theorem dX4_house_110 : decode cX4_house 110 = .ok (.aload_n 0, 1) := by decide +kernel
theorem dX4_house_111 : decode cX4_house 111 = .ok (.getfield 10, 3) := by decide +kernel
theorem dX4_house_114 : decode cX4_house 114 = .ok (.getfield 132, 3) := by decide +kernel
theorem dX4_house_117 : decode cX4_house 117 = .ok (.ireturn, 1) := by decide +kernel
theorem dX4_house_118 : decode cX4_house 118 = .ok (.bipush (-102), 2) := by decide +kernel
theorem dX4_house_120 : decode cX4_house 120 = .ok (.ireturn, 1) := by decide +kernel
theorem dX4_foresight_0 : decode cX4_foresight 0 = .ok (.iload_n 1, 1) := by decide +kernel
theorem dX4_foresight_1 : decode cX4_foresight 1 = .ok (.iconst 0, 1) := by decide +kernel
theorem dX4_foresight_2 : decode cX4_foresight 2 = .ok (.bipush 24, 2) := by decide +kernel
theorem dX4_foresight_4 : decode cX4_foresight 4 = .ok (.invokestatic 31, 3) := by decide +kernel
theorem dX4_foresight_7 : decode cX4_foresight 7 = .ok (.ifCond .ne 6, 3) := by decide +kernel
theorem dX4_foresight_10 : decode cX4_foresight 10 = .ok (.bipush (-102), 2) := by decide +kernel
theorem dX4_foresight_12 : decode cX4_foresight 12 = .ok (.ireturn, 1) := by decide +kernel
theorem dX4_foresight_13 : decode cX4_foresight 13 = .ok (.aload_n 0, 1) := by decide +kernel
theorem dX4_foresight_14 : decode cX4_foresight 14 = .ok (.getfield 27, 3) := by decide +kernel
theorem dX4_foresight_17 : decode cX4_foresight 17 = .ok (.aload_n 0, 1) := by decide +kernel
theorem dX4_foresight_18 : decode cX4_foresight 18 = .ok (.getfield 10, 3) := by decide +kernel
theorem dX4_foresight_21 : decode cX4_foresight 21 = .ok (.iload_n 1, 1) := by decide +kernel
theorem dX4_foresight_22 : decode cX4_foresight 22 = .ok (.aload_n 0, 1) := by decide +kernel
theorem dX4_foresight_23 : decode cX4_foresight 23 = .ok (.getfield 10, 3) := by decide +kernel
theorem dX4_foresight_26 : decode cX4_foresight 26 = .ok (.getfield 35, 3) := by decide +kernel
theorem dX4_foresight_29 : decode cX4_foresight 29 = .ok (.invokestatic 135, 3) := by decide +kernel
theorem dX4_foresight_32 : decode cX4_foresight 32 = .ok (.invokevirtual 140, 3) := by decide +kernel
theorem dX4_foresight_35 : decode cX4_foresight 35 = .ok (.ireturn, 1) := by decide +kernel
theorem dX4_keep_0 : decode cX4_keep 0 = .ok (.iload_n 1, 1) := by decide +kernel
theorem dX4_keep_1 : decode cX4_keep 1 = .ok (.invokestatic 144, 3) := by decide +kernel
theorem dX4_keep_4 : decode cX4_keep 4 = .ok (.ifCond .ne 6, 3) := by decide +kernel
theorem dX4_keep_7 : decode cX4_keep 7 = .ok (.bipush (-101), 2) := by decide +kernel
theorem dX4_keep_9 : decode cX4_keep 9 = .ok (.ireturn, 1) := by decide +kernel
theorem dX4_keep_10 : decode cX4_keep 10 = .ok (.aload_n 0, 1) := by decide +kernel
theorem dX4_keep_11 : decode cX4_keep 11 = .ok (.getfield 16, 3) := by decide +kernel
theorem dX4_keep_14 : decode cX4_keep 14 = .ok (.iload_n 1, 1) := by decide +kernel
theorem dX4_keep_15 : decode cX4_keep 15 = .ok (.aaload, 1) := by decide +kernel
theorem dX4_keep_16 : decode cX4_keep 16 = .ok (.aload_n 0, 1) := by decide +kernel
theorem dX4_keep_17 : decode cX4_keep 17 = .ok (.getfield 10, 3) := by decide +kernel
theorem dX4_keep_20 : decode cX4_keep 20 = .ok (.invokevirtual 147, 3) := by decide +kernel
theorem dX4_keep_23 : decode cX4_keep 23 = .ok (.aload_n 0, 1) := by decide +kernel
theorem dX4_keep_24 : decode cX4_keep 24 = .ok (.getfield 20, 3) := by decide +kernel
theorem dX4_keep_27 : decode cX4_keep 27 = .ok (.iload_n 1, 1) := by decide +kernel
theorem dX4_keep_28 : decode cX4_keep 28 = .ok (.iconst 1, 1) := by decide +kernel
theorem dX4_keep_29 : decode cX4_keep 29 = .ok (.bastore, 1) := by decide +kernel
theorem dX4_keep_30 : decode cX4_keep 30 = .ok (.iconst 1, 1) := by decide +kernel
theorem dX4_keep_31 : decode cX4_keep 31 = .ok (.ireturn, 1) := by decide +kernel
theorem dX4_back_0 : decode cX4_back 0 = .ok (.iload_n 1, 1) := by decide +kernel
theorem dX4_back_1 : decode cX4_back 1 = .ok (.invokestatic 144, 3) := by decide +kernel
theorem dX4_back_4 : decode cX4_back 4 = .ok (.ifCond .ne 6, 3) := by decide +kernel
theorem dX4_back_7 : decode cX4_back 7 = .ok (.bipush (-101), 2) := by decide +kernel
theorem dX4_back_9 : decode cX4_back 9 = .ok (.ireturn, 1) := by decide +kernel
theorem dX4_back_10 : decode cX4_back 10 = .ok (.aload_n 0, 1) := by decide +kernel
theorem dX4_back_11 : decode cX4_back 11 = .ok (.getfield 20, 3) := by decide +kernel
theorem dX4_back_14 : decode cX4_back 14 = .ok (.iload_n 1, 1) := by decide +kernel
theorem dX4_back_15 : decode cX4_back 15 = .ok (.baload, 1) := by decide +kernel
theorem dX4_back_16 : decode cX4_back 16 = .ok (.ifCond .ne 6, 3) := by decide +kernel
theorem dX4_back_19 : decode cX4_back 19 = .ok (.bipush (-103), 2) := by decide +kernel
theorem dX4_back_21 : decode cX4_back 21 = .ok (.ireturn, 1) := by decide +kernel
theorem dX4_back_22 : decode cX4_back 22 = .ok (.aload_n 0, 1) := by decide +kernel
theorem dX4_back_23 : decode cX4_back 23 = .ok (.getfield 10, 3) := by decide +kernel
theorem dX4_back_26 : decode cX4_back 26 = .ok (.aload_n 0, 1) := by decide +kernel
theorem dX4_back_27 : decode cX4_back 27 = .ok (.getfield 16, 3) := by decide +kernel
theorem dX4_back_30 : decode cX4_back 30 = .ok (.iload_n 1, 1) := by decide +kernel
theorem dX4_back_31 : decode cX4_back 31 = .ok (.aaload, 1) := by decide +kernel
theorem dX4_back_32 : decode cX4_back 32 = .ok (.invokevirtual 147, 3) := by decide +kernel
theorem dX4_back_35 : decode cX4_back 35 = .ok (.iconst 1, 1) := by decide +kernel
theorem dX4_back_36 : decode cX4_back 36 = .ok (.ireturn, 1) := by decide +kernel
theorem dX4_digest_0 : decode cX4_digest 0 = .ok (.bipush 7, 2) := by decide +kernel
theorem dX4_digest_2 : decode cX4_digest 2 = .ok (.istore_n 1, 1) := by decide +kernel
theorem dX4_digest_3 : decode cX4_digest 3 = .ok (.iload_n 1, 1) := by decide +kernel
theorem dX4_digest_4 : decode cX4_digest 4 = .ok (.aload_n 0, 1) := by decide +kernel
theorem dX4_digest_5 : decode cX4_digest 5 = .ok (.getfield 10, 3) := by decide +kernel
theorem dX4_digest_8 : decode cX4_digest 8 = .ok (.getfield 60, 3) := by decide +kernel
theorem dX4_digest_11 : decode cX4_digest 11 = .ok (.invokestatic 151, 3) := by decide +kernel
theorem dX4_digest_14 : decode cX4_digest 14 = .ok (.istore_n 1, 1) := by decide +kernel
theorem dX4_digest_15 : decode cX4_digest 15 = .ok (.iload_n 1, 1) := by decide +kernel
theorem dX4_digest_16 : decode cX4_digest 16 = .ok (.aload_n 0, 1) := by decide +kernel
theorem dX4_digest_17 : decode cX4_digest 17 = .ok (.getfield 10, 3) := by decide +kernel
theorem dX4_digest_20 : decode cX4_digest 20 = .ok (.getfield 126, 3) := by decide +kernel
theorem dX4_digest_23 : decode cX4_digest 23 = .ok (.invokestatic 151, 3) := by decide +kernel
theorem dX4_digest_26 : decode cX4_digest 26 = .ok (.istore_n 1, 1) := by decide +kernel
theorem dX4_digest_27 : decode cX4_digest 27 = .ok (.iload_n 1, 1) := by decide +kernel
theorem dX4_digest_28 : decode cX4_digest 28 = .ok (.aload_n 0, 1) := by decide +kernel
theorem dX4_digest_29 : decode cX4_digest 29 = .ok (.getfield 10, 3) := by decide +kernel
theorem dX4_digest_32 : decode cX4_digest 32 = .ok (.getfield 132, 3) := by decide +kernel
theorem dX4_digest_35 : decode cX4_digest 35 = .ok (.invokestatic 151, 3) := by decide +kernel
theorem dX4_digest_38 : decode cX4_digest 38 = .ok (.istore_n 1, 1) := by decide +kernel
theorem dX4_digest_39 : decode cX4_digest 39 = .ok (.iload_n 1, 1) := by decide +kernel
theorem dX4_digest_40 : decode cX4_digest 40 = .ok (.aload_n 0, 1) := by decide +kernel
theorem dX4_digest_41 : decode cX4_digest 41 = .ok (.getfield 10, 3) := by decide +kernel
theorem dX4_digest_44 : decode cX4_digest 44 = .ok (.getfield 120, 3) := by decide +kernel
theorem dX4_digest_47 : decode cX4_digest 47 = .ok (.invokestatic 151, 3) := by decide +kernel
theorem dX4_digest_50 : decode cX4_digest 50 = .ok (.istore_n 1, 1) := by decide +kernel
theorem dX4_digest_51 : decode cX4_digest 51 = .ok (.iload_n 1, 1) := by decide +kernel
theorem dX4_digest_52 : decode cX4_digest 52 = .ok (.aload_n 0, 1) := by decide +kernel
theorem dX4_digest_53 : decode cX4_digest 53 = .ok (.getfield 10, 3) := by decide +kernel
theorem dX4_digest_56 : decode cX4_digest 56 = .ok (.getfield 123, 3) := by decide +kernel
theorem dX4_digest_59 : decode cX4_digest 59 = .ok (.invokestatic 151, 3) := by decide +kernel
theorem dX4_digest_62 : decode cX4_digest 62 = .ok (.istore_n 1, 1) := by decide +kernel
theorem dX4_digest_63 : decode cX4_digest 63 = .ok (.iload_n 1, 1) := by decide +kernel
theorem dX4_digest_64 : decode cX4_digest 64 = .ok (.aload_n 0, 1) := by decide +kernel
theorem dX4_digest_65 : decode cX4_digest 65 = .ok (.getfield 10, 3) := by decide +kernel
end
section
theorem dX4_digest_68 : decode cX4_digest 68 = .ok (.getfield 92, 3) := by decide +kernel
theorem dX4_digest_71 : decode cX4_digest 71 = .ok (.iconst 1, 1) := by decide +kernel
theorem dX4_digest_72 : decode cX4_digest 72 = .ok (.invokestatic 154, 3) := by decide +kernel
theorem dX4_digest_75 : decode cX4_digest 75 = .ok (.istore_n 1, 1) := by decide +kernel
theorem dX4_digest_76 : decode cX4_digest 76 = .ok (.iload_n 1, 1) := by decide +kernel
theorem dX4_digest_77 : decode cX4_digest 77 = .ok (.aload_n 0, 1) := by decide +kernel
theorem dX4_digest_78 : decode cX4_digest 78 = .ok (.getfield 10, 3) := by decide +kernel
theorem dX4_digest_81 : decode cX4_digest 81 = .ok (.getfield 114, 3) := by decide +kernel
theorem dX4_digest_84 : decode cX4_digest 84 = .ok (.iconst 0, 1) := by decide +kernel
theorem dX4_digest_85 : decode cX4_digest 85 = .ok (.invokestatic 154, 3) := by decide +kernel
theorem dX4_digest_88 : decode cX4_digest 88 = .ok (.istore_n 1, 1) := by decide +kernel
theorem dX4_digest_89 : decode cX4_digest 89 = .ok (.iconst 0, 1) := by decide +kernel
theorem dX4_digest_90 : decode cX4_digest 90 = .ok (.istore_n 2, 1) := by decide +kernel
theorem dX4_digest_91 : decode cX4_digest 91 = .ok (.iload_n 2, 1) := by decide +kernel
theorem dX4_digest_92 : decode cX4_digest 92 = .ok (.iconst 4, 1) := by decide +kernel
theorem dX4_digest_93 : decode cX4_digest 93 = .ok (.if_icmp .ge 23, 3) := by decide +kernel
theorem dX4_digest_96 : decode cX4_digest 96 = .ok (.iload_n 1, 1) := by decide +kernel
theorem dX4_digest_97 : decode cX4_digest 97 = .ok (.aload_n 0, 1) := by decide +kernel
theorem dX4_digest_98 : decode cX4_digest 98 = .ok (.getfield 10, 3) := by decide +kernel
theorem dX4_digest_101 : decode cX4_digest 101 = .ok (.getfield 47, 3) := by decide +kernel
theorem dX4_digest_104 : decode cX4_digest 104 = .ok (.iload_n 2, 1) := by decide +kernel
theorem dX4_digest_105 : decode cX4_digest 105 = .ok (.aaload, 1) := by decide +kernel
theorem dX4_digest_106 : decode cX4_digest 106 = .ok (.invokestatic 158, 3) := by decide +kernel
theorem dX4_digest_109 : decode cX4_digest 109 = .ok (.istore_n 1, 1) := by decide +kernel
theorem dX4_digest_110 : decode cX4_digest 110 = .ok (.iinc 2 1, 3) := by decide +kernel
theorem dX4_digest_113 : decode cX4_digest 113 = .ok (.goto (-22), 3) := by decide +kernel
theorem dX4_digest_116 : decode cX4_digest 116 = .ok (.iload_n 1, 1) := by decide +kernel
theorem dX4_digest_117 : decode cX4_digest 117 = .ok (.ireturn, 1) := by decide +kernel
theorem dX4_mixed_0 : decode cX4_mixed 0 = .ok (.bipush 31, 2) := by decide +kernel
theorem dX4_mixed_2 : decode cX4_mixed 2 = .ok (.iload_n 0, 1) := by decide +kernel
theorem dX4_mixed_3 : decode cX4_mixed 3 = .ok (.imul, 1) := by decide +kernel
theorem dX4_mixed_4 : decode cX4_mixed 4 = .ok (.iload_n 1, 1) := by decide +kernel
theorem dX4_mixed_5 : decode cX4_mixed 5 = .ok (.iadd, 1) := by decide +kernel
theorem dX4_mixed_6 : decode cX4_mixed 6 = .ok (.ireturn, 1) := by decide +kernel
theorem dX4_mixedHeld_0 : decode cX4_mixedHeld 0 = .ok (.iload_n 0, 1) := by decide +kernel
theorem dX4_mixedHeld_1 : decode cX4_mixedHeld 1 = .ok (.istore_n 3, 1) := by decide +kernel
theorem dX4_mixedHeld_2 : decode cX4_mixedHeld 2 = .ok (.iconst 0, 1) := by decide +kernel
theorem dX4_mixedHeld_3 : decode cX4_mixedHeld 3 = .ok (.istore 4, 2) := by decide +kernel
theorem dX4_mixedHeld_5 : decode cX4_mixedHeld 5 = .ok (.iload 4, 2) := by decide +kernel
theorem dX4_mixedHeld_7 : decode cX4_mixedHeld 7 = .ok (.aload_n 1, 1) := by decide +kernel
theorem dX4_mixedHeld_8 : decode cX4_mixedHeld 8 = .ok (.getfield 96, 3) := by decide +kernel
theorem dX4_mixedHeld_11 : decode cX4_mixedHeld 11 = .ok (.if_icmp .ge 49, 3) := by decide +kernel
theorem dX4_mixedHeld_14 : decode cX4_mixedHeld 14 = .ok (.iload_n 3, 1) := by decide +kernel
theorem dX4_mixedHeld_15 : decode cX4_mixedHeld 15 = .ok (.aload_n 1, 1) := by decide +kernel
theorem dX4_mixedHeld_16 : decode cX4_mixedHeld 16 = .ok (.getfield 101, 3) := by decide +kernel
theorem dX4_mixedHeld_19 : decode cX4_mixedHeld 19 = .ok (.iload 4, 2) := by decide +kernel
theorem dX4_mixedHeld_21 : decode cX4_mixedHeld 21 = .ok (.iaload, 1) := by decide +kernel
theorem dX4_mixedHeld_22 : decode cX4_mixedHeld 22 = .ok (.invokestatic 151, 3) := by decide +kernel
theorem dX4_mixedHeld_25 : decode cX4_mixedHeld 25 = .ok (.istore_n 3, 1) := by decide +kernel
theorem dX4_mixedHeld_26 : decode cX4_mixedHeld 26 = .ok (.iload_n 3, 1) := by decide +kernel
theorem dX4_mixedHeld_27 : decode cX4_mixedHeld 27 = .ok (.aload_n 1, 1) := by decide +kernel
theorem dX4_mixedHeld_28 : decode cX4_mixedHeld 28 = .ok (.getfield 105, 3) := by decide +kernel
theorem dX4_mixedHeld_31 : decode cX4_mixedHeld 31 = .ok (.iload 4, 2) := by decide +kernel
theorem dX4_mixedHeld_33 : decode cX4_mixedHeld 33 = .ok (.iaload, 1) := by decide +kernel
theorem dX4_mixedHeld_34 : decode cX4_mixedHeld 34 = .ok (.invokestatic 151, 3) := by decide +kernel
theorem dX4_mixedHeld_37 : decode cX4_mixedHeld 37 = .ok (.istore_n 3, 1) := by decide +kernel
theorem dX4_mixedHeld_38 : decode cX4_mixedHeld 38 = .ok (.iload_n 2, 1) := by decide +kernel
theorem dX4_mixedHeld_39 : decode cX4_mixedHeld 39 = .ok (.ifCond .eq 15, 3) := by decide +kernel
theorem dX4_mixedHeld_42 : decode cX4_mixedHeld 42 = .ok (.iload_n 3, 1) := by decide +kernel
theorem dX4_mixedHeld_43 : decode cX4_mixedHeld 43 = .ok (.aload_n 1, 1) := by decide +kernel
theorem dX4_mixedHeld_44 : decode cX4_mixedHeld 44 = .ok (.getfield 108, 3) := by decide +kernel
theorem dX4_mixedHeld_47 : decode cX4_mixedHeld 47 = .ok (.iload 4, 2) := by decide +kernel
theorem dX4_mixedHeld_49 : decode cX4_mixedHeld 49 = .ok (.iaload, 1) := by decide +kernel
theorem dX4_mixedHeld_50 : decode cX4_mixedHeld 50 = .ok (.invokestatic 151, 3) := by decide +kernel
theorem dX4_mixedHeld_53 : decode cX4_mixedHeld 53 = .ok (.istore_n 3, 1) := by decide +kernel
theorem dX4_mixedHeld_54 : decode cX4_mixedHeld 54 = .ok (.iinc 4 1, 3) := by decide +kernel
theorem dX4_mixedHeld_57 : decode cX4_mixedHeld 57 = .ok (.goto (-52), 3) := by decide +kernel
theorem dX4_mixedHeld_60 : decode cX4_mixedHeld 60 = .ok (.iload_n 3, 1) := by decide +kernel
theorem dX4_mixedHeld_61 : decode cX4_mixedHeld 61 = .ok (.ireturn, 1) := by decide +kernel
theorem dX4_mixedAsker_0 : decode cX4_mixedAsker 0 = .ok (.iload_n 0, 1) := by decide +kernel
theorem dX4_mixedAsker_1 : decode cX4_mixedAsker 1 = .ok (.istore_n 2, 1) := by decide +kernel
theorem dX4_mixedAsker_2 : decode cX4_mixedAsker 2 = .ok (.iconst 0, 1) := by decide +kernel
theorem dX4_mixedAsker_3 : decode cX4_mixedAsker 3 = .ok (.istore_n 3, 1) := by decide +kernel
theorem dX4_mixedAsker_4 : decode cX4_mixedAsker 4 = .ok (.iload_n 3, 1) := by decide +kernel
theorem dX4_mixedAsker_5 : decode cX4_mixedAsker 5 = .ok (.bipush 7, 2) := by decide +kernel
theorem dX4_mixedAsker_7 : decode cX4_mixedAsker 7 = .ok (.if_icmp .ge 20, 3) := by decide +kernel
theorem dX4_mixedAsker_10 : decode cX4_mixedAsker 10 = .ok (.iload_n 2, 1) := by decide +kernel
theorem dX4_mixedAsker_11 : decode cX4_mixedAsker 11 = .ok (.aload_n 1, 1) := by decide +kernel
theorem dX4_mixedAsker_12 : decode cX4_mixedAsker 12 = .ok (.getfield 162, 3) := by decide +kernel
theorem dX4_mixedAsker_15 : decode cX4_mixedAsker 15 = .ok (.iload_n 3, 1) := by decide +kernel
theorem dX4_mixedAsker_16 : decode cX4_mixedAsker 16 = .ok (.iaload, 1) := by decide +kernel
theorem dX4_mixedAsker_17 : decode cX4_mixedAsker 17 = .ok (.invokestatic 151, 3) := by decide +kernel
theorem dX4_mixedAsker_20 : decode cX4_mixedAsker 20 = .ok (.istore_n 2, 1) := by decide +kernel
theorem dX4_mixedAsker_21 : decode cX4_mixedAsker 21 = .ok (.iinc 3 1, 3) := by decide +kernel
theorem dX4_mixedAsker_24 : decode cX4_mixedAsker 24 = .ok (.goto (-20), 3) := by decide +kernel
theorem dX4_mixedAsker_27 : decode cX4_mixedAsker 27 = .ok (.iload_n 2, 1) := by decide +kernel
theorem dX4_mixedAsker_28 : decode cX4_mixedAsker 28 = .ok (.aload_n 1, 1) := by decide +kernel
theorem dX4_mixedAsker_29 : decode cX4_mixedAsker 29 = .ok (.getfield 63, 3) := by decide +kernel
theorem dX4_mixedAsker_32 : decode cX4_mixedAsker 32 = .ok (.invokestatic 151, 3) := by decide +kernel
theorem dX4_mixedAsker_35 : decode cX4_mixedAsker 35 = .ok (.aload_n 1, 1) := by decide +kernel
theorem dX4_mixedAsker_36 : decode cX4_mixedAsker 36 = .ok (.getfield 89, 3) := by decide +kernel
theorem dX4_mixedAsker_39 : decode cX4_mixedAsker 39 = .ok (.invokestatic 151, 3) := by decide +kernel
theorem dX4_mixedAsker_42 : decode cX4_mixedAsker 42 = .ok (.ireturn, 1) := by decide +kernel
theorem dX4_toldOfAll_0 : decode cX4_toldOfAll 0 = .ok (.iconst 0, 1) := by decide +kernel
theorem dX4_toldOfAll_1 : decode cX4_toldOfAll 1 = .ok (.istore_n 2, 1) := by decide +kernel
theorem dX4_toldOfAll_2 : decode cX4_toldOfAll 2 = .ok (.iconst 0, 1) := by decide +kernel
theorem dX4_toldOfAll_3 : decode cX4_toldOfAll 3 = .ok (.istore_n 3, 1) := by decide +kernel
theorem dX4_toldOfAll_4 : decode cX4_toldOfAll 4 = .ok (.iload_n 3, 1) := by decide +kernel
theorem dX4_toldOfAll_5 : decode cX4_toldOfAll 5 = .ok (.iconst 4, 1) := by decide +kernel
theorem dX4_toldOfAll_6 : decode cX4_toldOfAll 6 = .ok (.if_icmp .ge 18, 3) := by decide +kernel
theorem dX4_toldOfAll_9 : decode cX4_toldOfAll 9 = .ok (.iload_n 2, 1) := by decide +kernel
theorem dX4_toldOfAll_10 : decode cX4_toldOfAll 10 = .ok (.aload_n 0, 1) := by decide +kernel
theorem dX4_toldOfAll_11 : decode cX4_toldOfAll 11 = .ok (.iload_n 3, 1) := by decide +kernel
theorem dX4_toldOfAll_12 : decode cX4_toldOfAll 12 = .ok (.iload_n 1, 1) := by decide +kernel
theorem dX4_toldOfAll_13 : decode cX4_toldOfAll 13 = .ok (.invokevirtual 86, 3) := by decide +kernel
theorem dX4_toldOfAll_16 : decode cX4_toldOfAll 16 = .ok (.iadd, 1) := by decide +kernel
theorem dX4_toldOfAll_17 : decode cX4_toldOfAll 17 = .ok (.istore_n 2, 1) := by decide +kernel
theorem dX4_toldOfAll_18 : decode cX4_toldOfAll 18 = .ok (.iinc 3 1, 3) := by decide +kernel
theorem dX4_toldOfAll_21 : decode cX4_toldOfAll 21 = .ok (.goto (-17), 3) := by decide +kernel
theorem dX4_toldOfAll_24 : decode cX4_toldOfAll 24 = .ok (.iload_n 2, 1) := by decide +kernel
theorem dX4_toldOfAll_25 : decode cX4_toldOfAll 25 = .ok (.ireturn, 1) := by decide +kernel
theorem dX4_toldOfOne_0 : decode cX4_toldOfOne 0 = .ok (.iload_n 2, 1) := by decide +kernel
theorem dX4_toldOfOne_1 : decode cX4_toldOfOne 1 = .ok (.tableswitch 66 7 9 #[27, 40, 53], 27) := by decide +kernel
theorem dX4_toldOfOne_28 : decode cX4_toldOfOne 28 = .ok (.aload_n 0, 1) := by decide +kernel
theorem dX4_toldOfOne_29 : decode cX4_toldOfOne 29 = .ok (.getfield 10, 3) := by decide +kernel
theorem dX4_toldOfOne_32 : decode cX4_toldOfOne 32 = .ok (.getfield 92, 3) := by decide +kernel
theorem dX4_toldOfOne_35 : decode cX4_toldOfOne 35 = .ok (.getfield 165, 3) := by decide +kernel
theorem dX4_toldOfOne_38 : decode cX4_toldOfOne 38 = .ok (.iload_n 1, 1) := by decide +kernel
theorem dX4_toldOfOne_39 : decode cX4_toldOfOne 39 = .ok (.iaload, 1) := by decide +kernel
theorem dX4_toldOfOne_40 : decode cX4_toldOfOne 40 = .ok (.ireturn, 1) := by decide +kernel
theorem dX4_toldOfOne_41 : decode cX4_toldOfOne 41 = .ok (.aload_n 0, 1) := by decide +kernel
theorem dX4_toldOfOne_42 : decode cX4_toldOfOne 42 = .ok (.getfield 10, 3) := by decide +kernel
theorem dX4_toldOfOne_45 : decode cX4_toldOfOne 45 = .ok (.getfield 47, 3) := by decide +kernel
theorem dX4_toldOfOne_48 : decode cX4_toldOfOne 48 = .ok (.iload_n 1, 1) := by decide +kernel
theorem dX4_toldOfOne_49 : decode cX4_toldOfOne 49 = .ok (.aaload, 1) := by decide +kernel
theorem dX4_toldOfOne_50 : decode cX4_toldOfOne 50 = .ok (.getfield 51, 3) := by decide +kernel
theorem dX4_toldOfOne_53 : decode cX4_toldOfOne 53 = .ok (.ireturn, 1) := by decide +kernel
theorem dX4_toldOfOne_54 : decode cX4_toldOfOne 54 = .ok (.aload_n 0, 1) := by decide +kernel
theorem dX4_toldOfOne_55 : decode cX4_toldOfOne 55 = .ok (.getfield 10, 3) := by decide +kernel
theorem dX4_toldOfOne_58 : decode cX4_toldOfOne 58 = .ok (.getfield 114, 3) := by decide +kernel
theorem dX4_toldOfOne_61 : decode cX4_toldOfOne 61 = .ok (.getfield 165, 3) := by decide +kernel
theorem dX4_toldOfOne_64 : decode cX4_toldOfOne 64 = .ok (.iload_n 1, 1) := by decide +kernel
theorem dX4_toldOfOne_65 : decode cX4_toldOfOne 65 = .ok (.iaload, 1) := by decide +kernel
theorem dX4_toldOfOne_66 : decode cX4_toldOfOne 66 = .ok (.ireturn, 1) := by decide +kernel
theorem dX4_toldOfOne_67 : decode cX4_toldOfOne 67 = .ok (.aload_n 0, 1) := by decide +kernel
theorem dX4_toldOfOne_68 : decode cX4_toldOfOne 68 = .ok (.getfield 10, 3) := by decide +kernel
theorem dX4_toldOfOne_71 : decode cX4_toldOfOne 71 = .ok (.getfield 47, 3) := by decide +kernel
theorem dX4_toldOfOne_74 : decode cX4_toldOfOne 74 = .ok (.iload_n 1, 1) := by decide +kernel
theorem dX4_toldOfOne_75 : decode cX4_toldOfOne 75 = .ok (.aaload, 1) := by decide +kernel
theorem dX4_toldOfOne_76 : decode cX4_toldOfOne 76 = .ok (.getfield 162, 3) := by decide +kernel
theorem dX4_toldOfOne_79 : decode cX4_toldOfOne 79 = .ok (.iload_n 2, 1) := by decide +kernel
theorem dX4_toldOfOne_80 : decode cX4_toldOfOne 80 = .ok (.iaload, 1) := by decide +kernel
theorem dX4_toldOfOne_81 : decode cX4_toldOfOne 81 = .ok (.ireturn, 1) := by decide +kernel
theorem dX4_within_0 : decode cX4_within 0 = .ok (.iload_n 1, 1) := by decide +kernel
theorem dX4_within_1 : decode cX4_within 1 = .ok (.iload_n 0, 1) := by decide +kernel
theorem dX4_within_2 : decode cX4_within 2 = .ok (.if_icmp .gt 12, 3) := by decide +kernel
theorem dX4_within_5 : decode cX4_within 5 = .ok (.iload_n 0, 1) := by decide +kernel
theorem dX4_within_6 : decode cX4_within 6 = .ok (.iload_n 2, 1) := by decide +kernel
theorem dX4_within_7 : decode cX4_within 7 = .ok (.if_icmp .gt 7, 3) := by decide +kernel
theorem dX4_within_10 : decode cX4_within 10 = .ok (.iconst 1, 1) := by decide +kernel
theorem dX4_within_11 : decode cX4_within 11 = .ok (.goto 4, 3) := by decide +kernel
theorem dX4_within_14 : decode cX4_within 14 = .ok (.iconst 0, 1) := by decide +kernel
theorem dX4_within_15 : decode cX4_within 15 = .ok (.ireturn, 1) := by decide +kernel
theorem dX4_isAsker_0 : decode cX4_isAsker 0 = .ok (.iload_n 0, 1) := by decide +kernel
theorem dX4_isAsker_1 : decode cX4_isAsker 1 = .ok (.iconst 0, 1) := by decide +kernel
theorem dX4_isAsker_2 : decode cX4_isAsker 2 = .ok (.iconst 3, 1) := by decide +kernel
theorem dX4_isAsker_3 : decode cX4_isAsker 3 = .ok (.invokestatic 31, 3) := by decide +kernel
theorem dX4_isAsker_6 : decode cX4_isAsker 6 = .ok (.ireturn, 1) := by decide +kernel
theorem dX4_isBlock_0 : decode cX4_isBlock 0 = .ok (.iload_n 0, 1) := by decide +kernel
theorem dX4_isBlock_1 : decode cX4_isBlock 1 = .ok (.iconst 0, 1) := by decide +kernel
theorem dX4_isBlock_2 : decode cX4_isBlock 2 = .ok (.bipush 63, 2) := by decide +kernel
theorem dX4_isBlock_4 : decode cX4_isBlock 4 = .ok (.invokestatic 31, 3) := by decide +kernel
theorem dX4_isBlock_7 : decode cX4_isBlock 7 = .ok (.ireturn, 1) := by decide +kernel
theorem dX4_isShelf_0 : decode cX4_isShelf 0 = .ok (.iload_n 0, 1) := by decide +kernel
theorem dX4_isShelf_1 : decode cX4_isShelf 1 = .ok (.iconst 0, 1) := by decide +kernel
theorem dX4_isShelf_2 : decode cX4_isShelf 2 = .ok (.iconst 1, 1) := by decide +kernel
theorem dX4_isShelf_3 : decode cX4_isShelf 3 = .ok (.invokestatic 31, 3) := by decide +kernel
theorem dX4_isShelf_6 : decode cX4_isShelf 6 = .ok (.ireturn, 1) := by decide +kernel
theorem dX5_init_0 : decode cX5_init 0 = .ok (.aload_n 0, 1) := by decide +kernel
theorem dX5_init_1 : decode cX5_init 1 = .ok (.invokespecial 1, 3) := by decide +kernel
theorem dX5_init_4 : decode cX5_init 4 = .ok (.aload_n 0, 1) := by decide +kernel
theorem dX5_init_5 : decode cX5_init 5 = .ok (.bipush 12, 2) := by decide +kernel
theorem dX5_init_7 : decode cX5_init 7 = .ok (.newarray .int, 2) := by decide +kernel
theorem dX5_init_9 : decode cX5_init 9 = .ok (.putfield 7, 3) := by decide +kernel
theorem dX5_init_12 : decode cX5_init 12 = .ok (.aload_n 0, 1) := by decide +kernel
theorem dX5_init_13 : decode cX5_init 13 = .ok (.bipush 12, 2) := by decide +kernel
theorem dX5_init_15 : decode cX5_init 15 = .ok (.newarray .int, 2) := by decide +kernel
theorem dX5_init_17 : decode cX5_init 17 = .ok (.putfield 13, 3) := by decide +kernel
theorem dX5_init_20 : decode cX5_init 20 = .ok (.aload_n 0, 1) := by decide +kernel
theorem dX5_init_21 : decode cX5_init 21 = .ok (.bipush 12, 2) := by decide +kernel
theorem dX5_init_23 : decode cX5_init 23 = .ok (.newarray .boolean, 2) := by decide +kernel
theorem dX5_init_25 : decode cX5_init 25 = .ok (.putfield 16, 3) := by decide +kernel
theorem dX5_init_28 : decode cX5_init 28 = .ok (.aload_n 0, 1) := by decide +kernel
theorem dX5_init_29 : decode cX5_init 29 = .ok (.bipush 16, 2) := by decide +kernel
theorem dX5_init_31 : decode cX5_init 31 = .ok (.newarray .int, 2) := by decide +kernel
theorem dX5_init_33 : decode cX5_init 33 = .ok (.putfield 20, 3) := by decide +kernel
theorem dX5_init_36 : decode cX5_init 36 = .ok (.aload_n 0, 1) := by decide +kernel
theorem dX5_init_37 : decode cX5_init 37 = .ok (.bipush 16, 2) := by decide +kernel
theorem dX5_init_39 : decode cX5_init 39 = .ok (.newarray .int, 2) := by decide +kernel
theorem dX5_init_41 : decode cX5_init 41 = .ok (.putfield 23, 3) := by decide +kernel
theorem dX5_init_44 : decode cX5_init 44 = .ok (.aload_n 0, 1) := by decide +kernel
theorem dX5_init_45 : decode cX5_init 45 = .ok (.iconst 4, 1) := by decide +kernel
theorem dX5_init_46 : decode cX5_init 46 = .ok (.newarray .int, 2) := by decide +kernel
theorem dX5_init_48 : decode cX5_init 48 = .ok (.putfield 26, 3) := by decide +kernel
theorem dX5_init_51 : decode cX5_init 51 = .ok (.aload_n 0, 1) := by decide +kernel
theorem dX5_init_52 : decode cX5_init 52 = .ok (.iconst 4, 1) := by decide +kernel
theorem dX5_init_53 : decode cX5_init 53 = .ok (.newarray .int, 2) := by decide +kernel
theorem dX5_init_55 : decode cX5_init 55 = .ok (.putfield 29, 3) := by decide +kernel
theorem dX5_init_58 : decode cX5_init 58 = .ok (.aload_n 0, 1) := by decide +kernel
theorem dX5_init_59 : decode cX5_init 59 = .ok (.iconst 4, 1) := by decide +kernel
theorem dX5_init_60 : decode cX5_init 60 = .ok (.newarray .int, 2) := by decide +kernel
theorem dX5_init_62 : decode cX5_init 62 = .ok (.putfield 32, 3) := by decide +kernel
theorem dX5_init_65 : decode cX5_init 65 = .ok (.aload_n 0, 1) := by decide +kernel
theorem dX5_init_66 : decode cX5_init 66 = .ok (.iconst 4, 1) := by decide +kernel
theorem dX5_init_67 : decode cX5_init 67 = .ok (.newarray .int, 2) := by decide +kernel
theorem dX5_init_69 : decode cX5_init 69 = .ok (.putfield 35, 3) := by decide +kernel
theorem dX5_init_72 : decode cX5_init 72 = .ok (.aload_n 0, 1) := by decide +kernel
theorem dX5_init_73 : decode cX5_init 73 = .ok (.iconst 4, 1) := by decide +kernel
theorem dX5_init_74 : decode cX5_init 74 = .ok (.newarray .int, 2) := by decide +kernel
theorem dX5_init_76 : decode cX5_init 76 = .ok (.putfield 38, 3) := by decide +kernel
theorem dX5_init_79 : decode cX5_init 79 = .ok (.aload_n 0, 1) := by decide +kernel
theorem dX5_init_80 : decode cX5_init 80 = .ok (.iconst 4, 1) := by decide +kernel
theorem dX5_init_81 : decode cX5_init 81 = .ok (.newarray .int, 2) := by decide +kernel
theorem dX5_init_83 : decode cX5_init 83 = .ok (.putfield 41, 3) := by decide +kernel
theorem dX5_init_86 : decode cX5_init 86 = .ok (.aload_n 0, 1) := by decide +kernel
theorem dX5_init_87 : decode cX5_init 87 = .ok (.iconst 4, 1) := by decide +kernel
theorem dX5_init_88 : decode cX5_init 88 = .ok (.newarray .int, 2) := by decide +kernel
theorem dX5_init_90 : decode cX5_init 90 = .ok (.putfield 44, 3) := by decide +kernel
theorem dX5_init_93 : decode cX5_init 93 = .ok (.aload_n 0, 1) := by decide +kernel
theorem dX5_init_94 : decode cX5_init 94 = .ok (.iconst 4, 1) := by decide +kernel
theorem dX5_init_95 : decode cX5_init 95 = .ok (.newarray .int, 2) := by decide +kernel
theorem dX5_init_97 : decode cX5_init 97 = .ok (.putfield 47, 3) := by decide +kernel
theorem dX5_init_100 : decode cX5_init 100 = .ok (.aload_n 0, 1) := by decide +kernel
theorem dX5_init_101 : decode cX5_init 101 = .ok (.sipush 256, 3) := by decide +kernel
theorem dX5_init_104 : decode cX5_init 104 = .ok (.newarray .int, 2) := by decide +kernel
theorem dX5_init_106 : decode cX5_init 106 = .ok (.putfield 50, 3) := by decide +kernel
theorem dX5_init_109 : decode cX5_init 109 = .ok (.aload_n 0, 1) := by decide +kernel
theorem dX5_init_110 : decode cX5_init 110 = .ok (.bipush 28, 2) := by decide +kernel
theorem dX5_init_112 : decode cX5_init 112 = .ok (.newarray .int, 2) := by decide +kernel
theorem dX5_init_114 : decode cX5_init 114 = .ok (.putfield 53, 3) := by decide +kernel
theorem dX5_init_117 : decode cX5_init 117 = .ok (.aload_n 0, 1) := by decide +kernel
theorem dX5_init_118 : decode cX5_init 118 = .ok (.sipush 200, 3) := by decide +kernel
theorem dX5_init_121 : decode cX5_init 121 = .ok (.newarray .int, 2) := by decide +kernel
theorem dX5_init_123 : decode cX5_init 123 = .ok (.putfield 56, 3) := by decide +kernel
theorem dX5_init_126 : decode cX5_init 126 = .ok (.aload_n 0, 1) := by decide +kernel
theorem dX5_init_127 : decode cX5_init 127 = .ok (.iconst (-1), 1) := by decide +kernel
theorem dX5_init_128 : decode cX5_init 128 = .ok (.putfield 59, 3) := by decide +kernel
theorem dX5_init_131 : decode cX5_init 131 = .ok (.aload_n 0, 1) := by decide +kernel
theorem dX5_init_132 : decode cX5_init 132 = .ok (.bipush 7, 2) := by decide +kernel
theorem dX5_init_134 : decode cX5_init 134 = .ok (.newarray .int, 2) := by decide +kernel
theorem dX5_init_136 : decode cX5_init 136 = .ok (.putfield 63, 3) := by decide +kernel
theorem dX5_init_139 : decode cX5_init 139 = .ok (.aload_n 0, 1) := by decide +kernel
theorem dX5_init_140 : decode cX5_init 140 = .ok (.sipush 16384, 3) := by decide +kernel
theorem dX5_init_143 : decode cX5_init 143 = .ok (.newarray .boolean, 2) := by decide +kernel
theorem dX5_init_145 : decode cX5_init 145 = .ok (.putfield 66, 3) := by decide +kernel
theorem dX5_init_148 : decode cX5_init 148 = .ok (.aload_n 0, 1) := by decide +kernel
theorem dX5_init_149 : decode cX5_init 149 = .ok (.sipush 16384, 3) := by decide +kernel
theorem dX5_init_152 : decode cX5_init 152 = .ok (.newarray .boolean, 2) := by decide +kernel
theorem dX5_init_154 : decode cX5_init 154 = .ok (.putfield 69, 3) := by decide +kernel
theorem dX5_init_157 : decode cX5_init 157 = .ok (.aload_n 0, 1) := by decide +kernel
theorem dX5_init_158 : decode cX5_init 158 = .ok (.sipush 128, 3) := by decide +kernel
theorem dX5_init_161 : decode cX5_init 161 = .ok (.newarray .boolean, 2) := by decide +kernel
theorem dX5_init_163 : decode cX5_init 163 = .ok (.putfield 72, 3) := by decide +kernel
theorem dX5_init_166 : decode cX5_init 166 = .ok (.aload_n 0, 1) := by decide +kernel
theorem dX5_init_167 : decode cX5_init 167 = .ok (.sipush 128, 3) := by decide +kernel
theorem dX5_init_170 : decode cX5_init 170 = .ok (.newarray .boolean, 2) := by decide +kernel
theorem dX5_init_172 : decode cX5_init 172 = .ok (.putfield 75, 3) := by decide +kernel
theorem dX5_init_175 : decode cX5_init 175 = .ok (.aload_n 0, 1) := by decide +kernel
theorem dX5_init_176 : decode cX5_init 176 = .ok (.sipush 128, 3) := by decide +kernel
theorem dX5_init_179 : decode cX5_init 179 = .ok (.newarray .int, 2) := by decide +kernel
theorem dX5_init_181 : decode cX5_init 181 = .ok (.putfield 78, 3) := by decide +kernel
theorem dX5_init_184 : decode cX5_init 184 = .ok (.aload_n 0, 1) := by decide +kernel
theorem dX5_init_185 : decode cX5_init 185 = .ok (.sipush 128, 3) := by decide +kernel
theorem dX5_init_188 : decode cX5_init 188 = .ok (.newarray .int, 2) := by decide +kernel
theorem dX5_init_190 : decode cX5_init 190 = .ok (.putfield 81, 3) := by decide +kernel
theorem dX5_init_193 : decode cX5_init 193 = .ok (.aload_n 0, 1) := by decide +kernel
theorem dX5_init_194 : decode cX5_init 194 = .ok (.iconst 2, 1) := by decide +kernel
theorem dX5_init_195 : decode cX5_init 195 = .ok (.newarray .int, 2) := by decide +kernel
theorem dX5_init_197 : decode cX5_init 197 = .ok (.putfield 84, 3) := by decide +kernel
theorem dX5_init_200 : decode cX5_init 200 = .ok (.aload_n 0, 1) := by decide +kernel
theorem dX5_init_201 : decode cX5_init 201 = .ok (.sipush 1200, 3) := by decide +kernel
theorem dX5_init_204 : decode cX5_init 204 = .ok (.newarray .int, 2) := by decide +kernel
theorem dX5_init_206 : decode cX5_init 206 = .ok (.putfield 87, 3) := by decide +kernel
theorem dX5_init_209 : decode cX5_init 209 = .ok (.aload_n 0, 1) := by decide +kernel
theorem dX5_init_210 : decode cX5_init 210 = .ok (.iconst 4, 1) := by decide +kernel
theorem dX5_init_211 : decode cX5_init 211 = .ok (.iconst 1, 1) := by decide +kernel
theorem dX5_init_212 : decode cX5_init 212 = .ok (.iconst 2, 1) := by decide +kernel
theorem dX5_init_213 : decode cX5_init 213 = .ok (.invokevirtual 90, 3) := by decide +kernel
theorem dX5_init_216 : decode cX5_init 216 = .ok (.iconst 0, 1) := by decide +kernel
theorem dX5_init_217 : decode cX5_init 217 = .ok (.istore_n 1, 1) := by decide +kernel
theorem dX5_init_218 : decode cX5_init 218 = .ok (.iload_n 1, 1) := by decide +kernel
theorem dX5_init_219 : decode cX5_init 219 = .ok (.iconst 2, 1) := by decide +kernel
theorem dX5_init_220 : decode cX5_init 220 = .ok (.if_icmp .ge 16, 3) := by decide +kernel
theorem dX5_init_223 : decode cX5_init 223 = .ok (.aload_n 0, 1) := by decide +kernel
theorem dX5_init_224 : decode cX5_init 224 = .ok (.getfield 84, 3) := by decide +kernel
theorem dX5_init_227 : decode cX5_init 227 = .ok (.iload_n 1, 1) := by decide +kernel
theorem dX5_init_228 : decode cX5_init 228 = .ok (.iconst (-1), 1) := by decide +kernel
theorem dX5_init_229 : decode cX5_init 229 = .ok (.iastore, 1) := by decide +kernel
theorem dX5_init_230 : decode cX5_init 230 = .ok (.iinc 1 1, 3) := by decide +kernel
theorem dX5_init_233 : decode cX5_init 233 = .ok (.goto (-15), 3) := by decide +kernel
theorem dX5_init_236 : decode cX5_init 236 = .ok (.return_, 1) := by decide +kernel
theorem dX5_in_0 : decode cX5_in 0 = .ok (.lload_n 0, 1) := by decide +kernel
theorem dX5_in_1 : decode cX5_in 1 = .ok (.lload_n 2, 1) := by decide +kernel
theorem dX5_in_2 : decode cX5_in 2 = .ok (.lcmp, 1) := by decide +kernel
theorem dX5_in_3 : decode cX5_in 3 = .ok (.ifCond .lt 14, 3) := by decide +kernel
theorem dX5_in_6 : decode cX5_in 6 = .ok (.lload_n 0, 1) := by decide +kernel
theorem dX5_in_7 : decode cX5_in 7 = .ok (.lload 4, 2) := by decide +kernel
theorem dX5_in_9 : decode cX5_in 9 = .ok (.lcmp, 1) := by decide +kernel
theorem dX5_in_10 : decode cX5_in 10 = .ok (.ifCond .gt 7, 3) := by decide +kernel
theorem dX5_in_13 : decode cX5_in 13 = .ok (.iconst 1, 1) := by decide +kernel
theorem dX5_in_14 : decode cX5_in 14 = .ok (.goto 4, 3) := by decide +kernel
theorem dX5_in_17 : decode cX5_in 17 = .ok (.iconst 0, 1) := by decide +kernel
theorem dX5_in_18 : decode cX5_in 18 = .ok (.ireturn, 1) := by decide +kernel
theorem dX5_isAsker_0 : decode cX5_isAsker 0 = .ok (.iload_n 0, 1) := by decide +kernel
theorem dX5_isAsker_1 : decode cX5_isAsker 1 = .ok (.i2l, 1) := by decide +kernel
theorem dX5_isAsker_2 : decode cX5_isAsker 2 = .ok (.lconst 0, 1) := by decide +kernel
theorem dX5_isAsker_3 : decode cX5_isAsker 3 = .ok (.ldc2_w 94, 3) := by decide +kernel
theorem dX5_isAsker_6 : decode cX5_isAsker 6 = .ok (.invokestatic 96, 3) := by decide +kernel
theorem dX5_isAsker_9 : decode cX5_isAsker 9 = .ok (.ireturn, 1) := by decide +kernel
theorem dX5_isBlock_0 : decode cX5_isBlock 0 = .ok (.iload_n 0, 1) := by decide +kernel
theorem dX5_isBlock_1 : decode cX5_isBlock 1 = .ok (.i2l, 1) := by decide +kernel
theorem dX5_isBlock_2 : decode cX5_isBlock 2 = .ok (.lconst 0, 1) := by decide +kernel
theorem dX5_isBlock_3 : decode cX5_isBlock 3 = .ok (.ldc2_w 100, 3) := by decide +kernel
theorem dX5_isBlock_6 : decode cX5_isBlock 6 = .ok (.invokestatic 96, 3) := by decide +kernel
theorem dX5_isBlock_9 : decode cX5_isBlock 9 = .ok (.ireturn, 1) := by decide +kernel
theorem dX5_begin_0 : decode cX5_begin 0 = .ok (.aload_n 0, 1) := by decide +kernel
theorem dX5_begin_1 : decode cX5_begin 1 = .ok (.iload_n 1, 1) := by decide +kernel
theorem dX5_begin_2 : decode cX5_begin 2 = .ok (.putfield 102, 3) := by decide +kernel
theorem dX5_begin_5 : decode cX5_begin 5 = .ok (.aload_n 0, 1) := by decide +kernel
theorem dX5_begin_6 : decode cX5_begin 6 = .ok (.iload_n 2, 1) := by decide +kernel
theorem dX5_begin_7 : decode cX5_begin 7 = .ok (.putfield 105, 3) := by decide +kernel
theorem dX5_begin_10 : decode cX5_begin 10 = .ok (.aload_n 0, 1) := by decide +kernel
theorem dX5_begin_11 : decode cX5_begin 11 = .ok (.iload_n 3, 1) := by decide +kernel
theorem dX5_begin_12 : decode cX5_begin 12 = .ok (.putfield 108, 3) := by decide +kernel
theorem dX5_begin_15 : decode cX5_begin 15 = .ok (.aload_n 0, 1) := by decide +kernel
theorem dX5_begin_16 : decode cX5_begin 16 = .ok (.iconst 0, 1) := by decide +kernel
theorem dX5_begin_17 : decode cX5_begin 17 = .ok (.putfield 111, 3) := by decide +kernel
theorem dX5_begin_20 : decode cX5_begin 20 = .ok (.aload_n 0, 1) := by decide +kernel
theorem dX5_begin_21 : decode cX5_begin 21 = .ok (.iconst 0, 1) := by decide +kernel
theorem dX5_begin_22 : decode cX5_begin 22 = .ok (.putfield 114, 3) := by decide +kernel
theorem dX5_begin_25 : decode cX5_begin 25 = .ok (.aload_n 0, 1) := by decide +kernel
theorem dX5_begin_26 : decode cX5_begin 26 = .ok (.iconst 0, 1) := by decide +kernel
theorem dX5_begin_27 : decode cX5_begin 27 = .ok (.putfield 117, 3) := by decide +kernel
theorem dX5_begin_30 : decode cX5_begin 30 = .ok (.aload_n 0, 1) := by decide +kernel
theorem dX5_begin_31 : decode cX5_begin 31 = .ok (.iconst 0, 1) := by decide +kernel
theorem dX5_begin_32 : decode cX5_begin 32 = .ok (.putfield 120, 3) := by decide +kernel
theorem dX5_begin_35 : decode cX5_begin 35 = .ok (.aload_n 0, 1) := by decide +kernel
theorem dX5_begin_36 : decode cX5_begin 36 = .ok (.iconst 0, 1) := by decide +kernel
theorem dX5_begin_37 : decode cX5_begin 37 = .ok (.putfield 123, 3) := by decide +kernel
theorem dX5_begin_40 : decode cX5_begin 40 = .ok (.aload_n 0, 1) := by decide +kernel
theorem dX5_begin_41 : decode cX5_begin 41 = .ok (.iconst 0, 1) := by decide +kernel
theorem dX5_begin_42 : decode cX5_begin 42 = .ok (.putfield 126, 3) := by decide +kernel
theorem dX5_begin_45 : decode cX5_begin 45 = .ok (.iconst 0, 1) := by decide +kernel
theorem dX5_begin_46 : decode cX5_begin 46 = .ok (.istore 4, 2) := by decide +kernel
theorem dX5_begin_48 : decode cX5_begin 48 = .ok (.iload 4, 2) := by decide +kernel
theorem dX5_begin_50 : decode cX5_begin 50 = .ok (.iconst 4, 1) := by decide +kernel
theorem dX5_begin_51 : decode cX5_begin 51 = .ok (.if_icmp .ge 65, 3) := by decide +kernel
theorem dX5_begin_54 : decode cX5_begin 54 = .ok (.aload_n 0, 1) := by decide +kernel
theorem dX5_begin_55 : decode cX5_begin 55 = .ok (.getfield 26, 3) := by decide +kernel
theorem dX5_begin_58 : decode cX5_begin 58 = .ok (.iload 4, 2) := by decide +kernel
theorem dX5_begin_60 : decode cX5_begin 60 = .ok (.iconst 0, 1) := by decide +kernel
theorem dX5_begin_61 : decode cX5_begin 61 = .ok (.iastore, 1) := by decide +kernel
theorem dX5_begin_62 : decode cX5_begin 62 = .ok (.aload_n 0, 1) := by decide +kernel
theorem dX5_begin_63 : decode cX5_begin 63 = .ok (.getfield 29, 3) := by decide +kernel
theorem dX5_begin_66 : decode cX5_begin 66 = .ok (.iload 4, 2) := by decide +kernel
theorem dX5_begin_68 : decode cX5_begin 68 = .ok (.iconst 0, 1) := by decide +kernel
theorem dX5_begin_69 : decode cX5_begin 69 = .ok (.iastore, 1) := by decide +kernel
theorem dX5_begin_70 : decode cX5_begin 70 = .ok (.aload_n 0, 1) := by decide +kernel
theorem dX5_begin_71 : decode cX5_begin 71 = .ok (.getfield 32, 3) := by decide +kernel
theorem dX5_begin_74 : decode cX5_begin 74 = .ok (.iload 4, 2) := by decide +kernel
theorem dX5_begin_76 : decode cX5_begin 76 = .ok (.iconst 0, 1) := by decide +kernel
theorem dX5_begin_77 : decode cX5_begin 77 = .ok (.iastore, 1) := by decide +kernel
theorem dX5_begin_78 : decode cX5_begin 78 = .ok (.aload_n 0, 1) := by decide +kernel
theorem dX5_begin_79 : decode cX5_begin 79 = .ok (.getfield 35, 3) := by decide +kernel
theorem dX5_begin_82 : decode cX5_begin 82 = .ok (.iload 4, 2) := by decide +kernel
theorem dX5_begin_84 : decode cX5_begin 84 = .ok (.iconst 0, 1) := by decide +kernel
theorem dX5_begin_85 : decode cX5_begin 85 = .ok (.iastore, 1) := by decide +kernel
theorem dX5_begin_86 : decode cX5_begin 86 = .ok (.aload_n 0, 1) := by decide +kernel
theorem dX5_begin_87 : decode cX5_begin 87 = .ok (.getfield 38, 3) := by decide +kernel
theorem dX5_begin_90 : decode cX5_begin 90 = .ok (.iload 4, 2) := by decide +kernel
theorem dX5_begin_92 : decode cX5_begin 92 = .ok (.iconst (-1), 1) := by decide +kernel
theorem dX5_begin_93 : decode cX5_begin 93 = .ok (.iastore, 1) := by decide +kernel
theorem dX5_begin_94 : decode cX5_begin 94 = .ok (.aload_n 0, 1) := by decide +kernel
theorem dX5_begin_95 : decode cX5_begin 95 = .ok (.getfield 44, 3) := by decide +kernel
theorem dX5_begin_98 : decode cX5_begin 98 = .ok (.iload 4, 2) := by decide +kernel
theorem dX5_begin_100 : decode cX5_begin 100 = .ok (.iconst (-1), 1) := by decide +kernel
theorem dX5_begin_101 : decode cX5_begin 101 = .ok (.iastore, 1) := by decide +kernel
theorem dX5_begin_102 : decode cX5_begin 102 = .ok (.aload_n 0, 1) := by decide +kernel
theorem dX5_begin_103 : decode cX5_begin 103 = .ok (.getfield 47, 3) := by decide +kernel
theorem dX5_begin_106 : decode cX5_begin 106 = .ok (.iload 4, 2) := by decide +kernel
theorem dX5_begin_108 : decode cX5_begin 108 = .ok (.iconst 0, 1) := by decide +kernel
theorem dX5_begin_109 : decode cX5_begin 109 = .ok (.iastore, 1) := by decide +kernel
theorem dX5_begin_110 : decode cX5_begin 110 = .ok (.iinc 4 1, 3) := by decide +kernel
theorem dX5_begin_113 : decode cX5_begin 113 = .ok (.goto (-65), 3) := by decide +kernel
theorem dX5_begin_116 : decode cX5_begin 116 = .ok (.iconst 0, 1) := by decide +kernel
theorem dX5_begin_117 : decode cX5_begin 117 = .ok (.istore 4, 2) := by decide +kernel
theorem dX5_begin_119 : decode cX5_begin 119 = .ok (.iload 4, 2) := by decide +kernel
theorem dX5_begin_121 : decode cX5_begin 121 = .ok (.sipush 256, 3) := by decide +kernel
theorem dX5_begin_124 : decode cX5_begin 124 = .ok (.if_icmp .ge 17, 3) := by decide +kernel
theorem dX5_begin_127 : decode cX5_begin 127 = .ok (.aload_n 0, 1) := by decide +kernel
theorem dX5_begin_128 : decode cX5_begin 128 = .ok (.getfield 50, 3) := by decide +kernel
theorem dX5_begin_131 : decode cX5_begin 131 = .ok (.iload 4, 2) := by decide +kernel
theorem dX5_begin_133 : decode cX5_begin 133 = .ok (.iconst (-1), 1) := by decide +kernel
theorem dX5_begin_134 : decode cX5_begin 134 = .ok (.iastore, 1) := by decide +kernel
theorem dX5_begin_135 : decode cX5_begin 135 = .ok (.iinc 4 1, 3) := by decide +kernel
theorem dX5_begin_138 : decode cX5_begin 138 = .ok (.goto (-19), 3) := by decide +kernel
theorem dX5_begin_141 : decode cX5_begin 141 = .ok (.iconst 0, 1) := by decide +kernel
theorem dX5_begin_142 : decode cX5_begin 142 = .ok (.istore 4, 2) := by decide +kernel
theorem dX5_begin_144 : decode cX5_begin 144 = .ok (.iload 4, 2) := by decide +kernel
theorem dX5_begin_146 : decode cX5_begin 146 = .ok (.bipush 28, 2) := by decide +kernel
theorem dX5_begin_148 : decode cX5_begin 148 = .ok (.if_icmp .ge 17, 3) := by decide +kernel
theorem dX5_begin_151 : decode cX5_begin 151 = .ok (.aload_n 0, 1) := by decide +kernel
theorem dX5_begin_152 : decode cX5_begin 152 = .ok (.getfield 53, 3) := by decide +kernel
theorem dX5_begin_155 : decode cX5_begin 155 = .ok (.iload 4, 2) := by decide +kernel
theorem dX5_begin_157 : decode cX5_begin 157 = .ok (.iconst 0, 1) := by decide +kernel
theorem dX5_begin_158 : decode cX5_begin 158 = .ok (.iastore, 1) := by decide +kernel
theorem dX5_begin_159 : decode cX5_begin 159 = .ok (.iinc 4 1, 3) := by decide +kernel
theorem dX5_begin_162 : decode cX5_begin 162 = .ok (.goto (-18), 3) := by decide +kernel
theorem dX5_begin_165 : decode cX5_begin 165 = .ok (.return_, 1) := by decide +kernel
theorem dX5_clear_0 : decode cX5_clear 0 = .ok (.iload_n 1, 1) := by decide +kernel
theorem dX5_clear_1 : decode cX5_clear 1 = .ok (.i2l, 1) := by decide +kernel
theorem dX5_clear_2 : decode cX5_clear 2 = .ok (.lconst 1, 1) := by decide +kernel
theorem dX5_clear_3 : decode cX5_clear 3 = .ok (.ldc2_w 129, 3) := by decide +kernel
theorem dX5_clear_6 : decode cX5_clear 6 = .ok (.invokestatic 96, 3) := by decide +kernel
theorem dX5_clear_9 : decode cX5_clear 9 = .ok (.ifCond .eq 27, 3) := by decide +kernel
theorem dX5_clear_12 : decode cX5_clear 12 = .ok (.iload_n 2, 1) := by decide +kernel
theorem dX5_clear_13 : decode cX5_clear 13 = .ok (.i2l, 1) := by decide +kernel
theorem dX5_clear_14 : decode cX5_clear 14 = .ok (.lconst 1, 1) := by decide +kernel
theorem dX5_clear_15 : decode cX5_clear 15 = .ok (.ldc2_w 94, 3) := by decide +kernel
theorem dX5_clear_18 : decode cX5_clear 18 = .ok (.invokestatic 96, 3) := by decide +kernel
theorem dX5_clear_21 : decode cX5_clear 21 = .ok (.ifCond .eq 15, 3) := by decide +kernel
theorem dX5_clear_24 : decode cX5_clear 24 = .ok (.iload_n 3, 1) := by decide +kernel
theorem dX5_clear_25 : decode cX5_clear 25 = .ok (.i2l, 1) := by decide +kernel
theorem dX5_clear_26 : decode cX5_clear 26 = .ok (.lconst 1, 1) := by decide +kernel
theorem dX5_clear_27 : decode cX5_clear 27 = .ok (.ldc2_w 131, 3) := by decide +kernel
theorem dX5_clear_30 : decode cX5_clear 30 = .ok (.invokestatic 96, 3) := by decide +kernel
theorem dX5_clear_33 : decode cX5_clear 33 = .ok (.ifCond .ne 6, 3) := by decide +kernel
theorem dX5_clear_36 : decode cX5_clear 36 = .ok (.bipush (-102), 2) := by decide +kernel
theorem dX5_clear_38 : decode cX5_clear 38 = .ok (.ireturn, 1) := by decide +kernel
theorem dX5_clear_39 : decode cX5_clear 39 = .ok (.aload_n 0, 1) := by decide +kernel
theorem dX5_clear_40 : decode cX5_clear 40 = .ok (.iconst 0, 1) := by decide +kernel
theorem dX5_clear_41 : decode cX5_clear 41 = .ok (.invokevirtual 133, 3) := by decide +kernel
theorem dX5_clear_44 : decode cX5_clear 44 = .ok (.istore 4, 2) := by decide +kernel
theorem dX5_clear_46 : decode cX5_clear 46 = .ok (.aload_n 0, 1) := by decide +kernel
theorem dX5_clear_47 : decode cX5_clear 47 = .ok (.iload_n 1, 1) := by decide +kernel
theorem dX5_clear_48 : decode cX5_clear 48 = .ok (.iload_n 2, 1) := by decide +kernel
theorem dX5_clear_49 : decode cX5_clear 49 = .ok (.iload_n 3, 1) := by decide +kernel
theorem dX5_clear_50 : decode cX5_clear 50 = .ok (.invokevirtual 90, 3) := by decide +kernel
theorem dX5_clear_53 : decode cX5_clear 53 = .ok (.iload 4, 2) := by decide +kernel
theorem dX5_clear_55 : decode cX5_clear 55 = .ok (.ireturn, 1) := by decide +kernel
theorem dX5_sum_0 : decode cX5_sum 0 = .ok (.iconst 0, 1) := by decide +kernel
theorem dX5_sum_1 : decode cX5_sum 1 = .ok (.istore_n 2, 1) := by decide +kernel
theorem dX5_sum_2 : decode cX5_sum 2 = .ok (.iconst 0, 1) := by decide +kernel
theorem dX5_sum_3 : decode cX5_sum 3 = .ok (.istore_n 3, 1) := by decide +kernel
theorem dX5_sum_4 : decode cX5_sum 4 = .ok (.iload_n 3, 1) := by decide +kernel
theorem dX5_sum_5 : decode cX5_sum 5 = .ok (.iconst 4, 1) := by decide +kernel
theorem dX5_sum_6 : decode cX5_sum 6 = .ok (.if_icmp .ge 23, 3) := by decide +kernel
theorem dX5_sum_9 : decode cX5_sum 9 = .ok (.iload_n 2, 1) := by decide +kernel
theorem dX5_sum_10 : decode cX5_sum 10 = .ok (.aload_n 0, 1) := by decide +kernel
theorem dX5_sum_11 : decode cX5_sum 11 = .ok (.getfield 53, 3) := by decide +kernel
theorem dX5_sum_14 : decode cX5_sum 14 = .ok (.bipush 7, 2) := by decide +kernel
theorem dX5_sum_16 : decode cX5_sum 16 = .ok (.iload_n 3, 1) := by decide +kernel
theorem dX5_sum_17 : decode cX5_sum 17 = .ok (.imul, 1) := by decide +kernel
theorem dX5_sum_18 : decode cX5_sum 18 = .ok (.iload_n 1, 1) := by decide +kernel
theorem dX5_sum_19 : decode cX5_sum 19 = .ok (.iadd, 1) := by decide +kernel
theorem dX5_sum_20 : decode cX5_sum 20 = .ok (.iaload, 1) := by decide +kernel
theorem dX5_sum_21 : decode cX5_sum 21 = .ok (.iadd, 1) := by decide +kernel
theorem dX5_sum_22 : decode cX5_sum 22 = .ok (.istore_n 2, 1) := by decide +kernel
theorem dX5_sum_23 : decode cX5_sum 23 = .ok (.iinc 3 1, 3) := by decide +kernel
theorem dX5_sum_26 : decode cX5_sum 26 = .ok (.goto (-22), 3) := by decide +kernel
theorem dX5_sum_29 : decode cX5_sum 29 = .ok (.iload_n 2, 1) := by decide +kernel
theorem dX5_sum_30 : decode cX5_sum 30 = .ok (.ireturn, 1) := by decide +kernel
theorem dX5_share_0 : decode cX5_share 0 = .ok (.iload_n 1, 1) := by decide +kernel
theorem dX5_share_1 : decode cX5_share 1 = .ok (.invokestatic 137, 3) := by decide +kernel
theorem dX5_share_4 : decode cX5_share 4 = .ok (.ifCond .ne 6, 3) := by decide +kernel
theorem dX5_share_7 : decode cX5_share 7 = .ok (.bipush (-101), 2) := by decide +kernel
theorem dX5_share_9 : decode cX5_share 9 = .ok (.ireturn, 1) := by decide +kernel
theorem dX5_share_10 : decode cX5_share 10 = .ok (.iload_n 2, 1) := by decide +kernel
theorem dX5_share_11 : decode cX5_share 11 = .ok (.i2l, 1) := by decide +kernel
theorem dX5_share_12 : decode cX5_share 12 = .ok (.lconst 0, 1) := by decide +kernel
theorem dX5_share_13 : decode cX5_share 13 = .ok (.ldc2_w 129, 3) := by decide +kernel
theorem dX5_share_16 : decode cX5_share 16 = .ok (.invokestatic 96, 3) := by decide +kernel
theorem dX5_share_19 : decode cX5_share 19 = .ok (.ifCond .ne 6, 3) := by decide +kernel
theorem dX5_share_22 : decode cX5_share 22 = .ok (.bipush (-102), 2) := by decide +kernel
theorem dX5_share_24 : decode cX5_share 24 = .ok (.ireturn, 1) := by decide +kernel
theorem dX5_share_25 : decode cX5_share 25 = .ok (.iload_n 2, 1) := by decide +kernel
theorem dX5_share_26 : decode cX5_share 26 = .ok (.istore_n 3, 1) := by decide +kernel
theorem dX5_share_27 : decode cX5_share 27 = .ok (.iconst 0, 1) := by decide +kernel
theorem dX5_share_28 : decode cX5_share 28 = .ok (.istore 4, 2) := by decide +kernel
theorem dX5_share_30 : decode cX5_share 30 = .ok (.iload 4, 2) := by decide +kernel
theorem dX5_share_32 : decode cX5_share 32 = .ok (.iconst 4, 1) := by decide +kernel
theorem dX5_share_33 : decode cX5_share 33 = .ok (.if_icmp .ge 29, 3) := by decide +kernel
theorem dX5_share_36 : decode cX5_share 36 = .ok (.iload_n 3, 1) := by decide +kernel
theorem dX5_share_37 : decode cX5_share 37 = .ok (.iload 4, 2) := by decide +kernel
theorem dX5_share_39 : decode cX5_share 39 = .ok (.iload_n 1, 1) := by decide +kernel
theorem dX5_share_40 : decode cX5_share 40 = .ok (.if_icmp .ne 7, 3) := by decide +kernel
theorem dX5_share_43 : decode cX5_share 43 = .ok (.iconst 0, 1) := by decide +kernel
theorem dX5_share_44 : decode cX5_share 44 = .ok (.goto 10, 3) := by decide +kernel
theorem dX5_share_47 : decode cX5_share 47 = .ok (.aload_n 0, 1) := by decide +kernel
theorem dX5_share_48 : decode cX5_share 48 = .ok (.getfield 35, 3) := by decide +kernel
theorem dX5_share_51 : decode cX5_share 51 = .ok (.iload 4, 2) := by decide +kernel
theorem dX5_share_53 : decode cX5_share 53 = .ok (.iaload, 1) := by decide +kernel
theorem dX5_share_54 : decode cX5_share 54 = .ok (.iadd, 1) := by decide +kernel
theorem dX5_share_55 : decode cX5_share 55 = .ok (.istore_n 3, 1) := by decide +kernel
theorem dX5_share_56 : decode cX5_share 56 = .ok (.iinc 4 1, 3) := by decide +kernel
theorem dX5_share_59 : decode cX5_share 59 = .ok (.goto (-29), 3) := by decide +kernel
theorem dX5_share_62 : decode cX5_share 62 = .ok (.iload_n 3, 1) := by decide +kernel
theorem dX5_share_63 : decode cX5_share 63 = .ok (.aload_n 0, 1) := by decide +kernel
theorem dX5_share_64 : decode cX5_share 64 = .ok (.getfield 102, 3) := by decide +kernel
theorem dX5_share_67 : decode cX5_share 67 = .ok (.if_icmp .le 6, 3) := by decide +kernel
theorem dX5_share_70 : decode cX5_share 70 = .ok (.bipush (-103), 2) := by decide +kernel
theorem dX5_share_72 : decode cX5_share 72 = .ok (.ireturn, 1) := by decide +kernel
theorem dX5_share_73 : decode cX5_share 73 = .ok (.aload_n 0, 1) := by decide +kernel
theorem dX5_share_74 : decode cX5_share 74 = .ok (.getfield 35, 3) := by decide +kernel
theorem dX5_share_77 : decode cX5_share 77 = .ok (.iload_n 1, 1) := by decide +kernel
theorem dX5_share_78 : decode cX5_share 78 = .ok (.iaload, 1) := by decide +kernel
theorem dX5_share_79 : decode cX5_share 79 = .ok (.istore 4, 2) := by decide +kernel
theorem dX5_share_81 : decode cX5_share 81 = .ok (.aload_n 0, 1) := by decide +kernel
theorem dX5_share_82 : decode cX5_share 82 = .ok (.getfield 35, 3) := by decide +kernel
theorem dX5_share_85 : decode cX5_share 85 = .ok (.iload_n 1, 1) := by decide +kernel
theorem dX5_share_86 : decode cX5_share 86 = .ok (.iload_n 2, 1) := by decide +kernel
theorem dX5_share_87 : decode cX5_share 87 = .ok (.iastore, 1) := by decide +kernel
theorem dX5_share_88 : decode cX5_share 88 = .ok (.iload 4, 2) := by decide +kernel
theorem dX5_share_90 : decode cX5_share 90 = .ok (.ireturn, 1) := by decide +kernel
theorem dX5_kind_0 : decode cX5_kind 0 = .ok (.iload_n 1, 1) := by decide +kernel
theorem dX5_kind_1 : decode cX5_kind 1 = .ok (.invokestatic 137, 3) := by decide +kernel
theorem dX5_kind_4 : decode cX5_kind 4 = .ok (.ifCond .ne 6, 3) := by decide +kernel
theorem dX5_kind_7 : decode cX5_kind 7 = .ok (.bipush (-101), 2) := by decide +kernel
theorem dX5_kind_9 : decode cX5_kind 9 = .ok (.ireturn, 1) := by decide +kernel
theorem dX5_kind_10 : decode cX5_kind 10 = .ok (.iload_n 2, 1) := by decide +kernel
theorem dX5_kind_11 : decode cX5_kind 11 = .ok (.i2l, 1) := by decide +kernel
theorem dX5_kind_12 : decode cX5_kind 12 = .ok (.lconst 0, 1) := by decide +kernel
theorem dX5_kind_13 : decode cX5_kind 13 = .ok (.ldc2_w 141, 3) := by decide +kernel
theorem dX5_kind_16 : decode cX5_kind 16 = .ok (.invokestatic 96, 3) := by decide +kernel
theorem dX5_kind_19 : decode cX5_kind 19 = .ok (.ifCond .eq 15, 3) := by decide +kernel
theorem dX5_kind_22 : decode cX5_kind 22 = .ok (.iload_n 3, 1) := by decide +kernel
theorem dX5_kind_23 : decode cX5_kind 23 = .ok (.i2l, 1) := by decide +kernel
theorem dX5_kind_24 : decode cX5_kind 24 = .ok (.lconst 0, 1) := by decide +kernel
theorem dX5_kind_25 : decode cX5_kind 25 = .ok (.ldc2_w 143, 3) := by decide +kernel
theorem dX5_kind_28 : decode cX5_kind 28 = .ok (.invokestatic 96, 3) := by decide +kernel
theorem dX5_kind_31 : decode cX5_kind 31 = .ok (.ifCond .ne 6, 3) := by decide +kernel
theorem dX5_kind_34 : decode cX5_kind 34 = .ok (.bipush (-102), 2) := by decide +kernel
theorem dX5_kind_36 : decode cX5_kind 36 = .ok (.ireturn, 1) := by decide +kernel
theorem dX5_kind_37 : decode cX5_kind 37 = .ok (.aload_n 0, 1) := by decide +kernel
theorem dX5_kind_38 : decode cX5_kind 38 = .ok (.getfield 26, 3) := by decide +kernel
theorem dX5_kind_41 : decode cX5_kind 41 = .ok (.iload_n 1, 1) := by decide +kernel
theorem dX5_kind_42 : decode cX5_kind 42 = .ok (.iaload, 1) := by decide +kernel
theorem dX5_kind_43 : decode cX5_kind 43 = .ok (.istore 4, 2) := by decide +kernel
theorem dX5_kind_45 : decode cX5_kind 45 = .ok (.aload_n 0, 1) := by decide +kernel
theorem dX5_kind_46 : decode cX5_kind 46 = .ok (.getfield 26, 3) := by decide +kernel
theorem dX5_kind_49 : decode cX5_kind 49 = .ok (.iload_n 1, 1) := by decide +kernel
theorem dX5_kind_50 : decode cX5_kind 50 = .ok (.iload_n 2, 1) := by decide +kernel
theorem dX5_kind_51 : decode cX5_kind 51 = .ok (.iastore, 1) := by decide +kernel
theorem dX5_kind_52 : decode cX5_kind 52 = .ok (.aload_n 0, 1) := by decide +kernel
theorem dX5_kind_53 : decode cX5_kind 53 = .ok (.getfield 29, 3) := by decide +kernel
theorem dX5_kind_56 : decode cX5_kind 56 = .ok (.iload_n 1, 1) := by decide +kernel
theorem dX5_kind_57 : decode cX5_kind 57 = .ok (.iload_n 3, 1) := by decide +kernel
theorem dX5_kind_58 : decode cX5_kind 58 = .ok (.iastore, 1) := by decide +kernel
theorem dX5_kind_59 : decode cX5_kind 59 = .ok (.aload_n 0, 1) := by decide +kernel
theorem dX5_kind_60 : decode cX5_kind 60 = .ok (.getfield 32, 3) := by decide +kernel
theorem dX5_kind_63 : decode cX5_kind 63 = .ok (.iload_n 1, 1) := by decide +kernel
theorem dX5_kind_64 : decode cX5_kind 64 = .ok (.iload_n 3, 1) := by decide +kernel
theorem dX5_kind_65 : decode cX5_kind 65 = .ok (.iastore, 1) := by decide +kernel
theorem dX5_kind_66 : decode cX5_kind 66 = .ok (.aload_n 0, 1) := by decide +kernel
theorem dX5_kind_67 : decode cX5_kind 67 = .ok (.getfield 38, 3) := by decide +kernel
theorem dX5_kind_70 : decode cX5_kind 70 = .ok (.iload_n 1, 1) := by decide +kernel
theorem dX5_kind_71 : decode cX5_kind 71 = .ok (.iconst (-1), 1) := by decide +kernel
theorem dX5_kind_72 : decode cX5_kind 72 = .ok (.iastore, 1) := by decide +kernel
theorem dX5_kind_73 : decode cX5_kind 73 = .ok (.iload 4, 2) := by decide +kernel
theorem dX5_kind_75 : decode cX5_kind 75 = .ok (.ireturn, 1) := by decide +kernel
theorem dX5_hint_0 : decode cX5_hint 0 = .ok (.iload_n 1, 1) := by decide +kernel
theorem dX5_hint_1 : decode cX5_hint 1 = .ok (.invokestatic 137, 3) := by decide +kernel
theorem dX5_hint_4 : decode cX5_hint 4 = .ok (.ifCond .ne 6, 3) := by decide +kernel
theorem dX5_hint_7 : decode cX5_hint 7 = .ok (.bipush (-101), 2) := by decide +kernel
theorem dX5_hint_9 : decode cX5_hint 9 = .ok (.ireturn, 1) := by decide +kernel
theorem dX5_hint_10 : decode cX5_hint 10 = .ok (.iload_n 2, 1) := by decide +kernel
theorem dX5_hint_11 : decode cX5_hint 11 = .ok (.invokestatic 145, 3) := by decide +kernel
theorem dX5_hint_14 : decode cX5_hint 14 = .ok (.ifCond .eq 15, 3) := by decide +kernel
theorem dX5_hint_17 : decode cX5_hint 17 = .ok (.iload_n 3, 1) := by decide +kernel
theorem dX5_hint_18 : decode cX5_hint 18 = .ok (.invokestatic 145, 3) := by decide +kernel
theorem dX5_hint_21 : decode cX5_hint 21 = .ok (.ifCond .eq 8, 3) := by decide +kernel
theorem dX5_hint_24 : decode cX5_hint 24 = .ok (.iload_n 2, 1) := by decide +kernel
theorem dX5_hint_25 : decode cX5_hint 25 = .ok (.iload_n 3, 1) := by decide +kernel
theorem dX5_hint_26 : decode cX5_hint 26 = .ok (.if_icmp .le 6, 3) := by decide +kernel
theorem dX5_hint_29 : decode cX5_hint 29 = .ok (.bipush (-102), 2) := by decide +kernel
theorem dX5_hint_31 : decode cX5_hint 31 = .ok (.ireturn, 1) := by decide +kernel
theorem dX5_hint_32 : decode cX5_hint 32 = .ok (.aload_n 0, 1) := by decide +kernel
theorem dX5_hint_33 : decode cX5_hint 33 = .ok (.getfield 26, 3) := by decide +kernel
theorem dX5_hint_36 : decode cX5_hint 36 = .ok (.iload_n 1, 1) := by decide +kernel
theorem dX5_hint_37 : decode cX5_hint 37 = .ok (.iaload, 1) := by decide +kernel
theorem dX5_hint_38 : decode cX5_hint 38 = .ok (.iconst 4, 1) := by decide +kernel
theorem dX5_hint_39 : decode cX5_hint 39 = .ok (.if_icmp .eq 6, 3) := by decide +kernel
theorem dX5_hint_42 : decode cX5_hint 42 = .ok (.bipush (-103), 2) := by decide +kernel
theorem dX5_hint_44 : decode cX5_hint 44 = .ok (.ireturn, 1) := by decide +kernel
theorem dX5_hint_45 : decode cX5_hint 45 = .ok (.aload_n 0, 1) := by decide +kernel
theorem dX5_hint_46 : decode cX5_hint 46 = .ok (.getfield 38, 3) := by decide +kernel
theorem dX5_hint_49 : decode cX5_hint 49 = .ok (.iload_n 1, 1) := by decide +kernel
theorem dX5_hint_50 : decode cX5_hint 50 = .ok (.iload_n 2, 1) := by decide +kernel
theorem dX5_hint_51 : decode cX5_hint 51 = .ok (.iastore, 1) := by decide +kernel
theorem dX5_hint_52 : decode cX5_hint 52 = .ok (.aload_n 0, 1) := by decide +kernel
theorem dX5_hint_53 : decode cX5_hint 53 = .ok (.getfield 41, 3) := by decide +kernel
theorem dX5_hint_56 : decode cX5_hint 56 = .ok (.iload_n 1, 1) := by decide +kernel
theorem dX5_hint_57 : decode cX5_hint 57 = .ok (.iload_n 3, 1) := by decide +kernel
theorem dX5_hint_58 : decode cX5_hint 58 = .ok (.iastore, 1) := by decide +kernel
theorem dX5_hint_59 : decode cX5_hint 59 = .ok (.iconst 1, 1) := by decide +kernel
theorem dX5_hint_60 : decode cX5_hint 60 = .ok (.ireturn, 1) := by decide +kernel
theorem dX5_placeOf_0 : decode cX5_placeOf 0 = .ok (.iconst (-1), 1) := by decide +kernel
theorem dX5_placeOf_1 : decode cX5_placeOf 1 = .ok (.istore_n 2, 1) := by decide +kernel
theorem dX5_placeOf_2 : decode cX5_placeOf 2 = .ok (.iconst 0, 1) := by decide +kernel
theorem dX5_placeOf_3 : decode cX5_placeOf 3 = .ok (.istore_n 3, 1) := by decide +kernel
theorem dX5_placeOf_4 : decode cX5_placeOf 4 = .ok (.iload_n 3, 1) := by decide +kernel
theorem dX5_placeOf_5 : decode cX5_placeOf 5 = .ok (.aload_n 0, 1) := by decide +kernel
theorem dX5_placeOf_6 : decode cX5_placeOf 6 = .ok (.getfield 111, 3) := by decide +kernel
theorem dX5_placeOf_9 : decode cX5_placeOf 9 = .ok (.if_icmp .ge 25, 3) := by decide +kernel
theorem dX5_placeOf_12 : decode cX5_placeOf 12 = .ok (.aload_n 0, 1) := by decide +kernel
theorem dX5_placeOf_13 : decode cX5_placeOf 13 = .ok (.getfield 7, 3) := by decide +kernel
theorem dX5_placeOf_16 : decode cX5_placeOf 16 = .ok (.iload_n 3, 1) := by decide +kernel
theorem dX5_placeOf_17 : decode cX5_placeOf 17 = .ok (.iaload, 1) := by decide +kernel
theorem dX5_placeOf_18 : decode cX5_placeOf 18 = .ok (.iload_n 1, 1) := by decide +kernel
theorem dX5_placeOf_19 : decode cX5_placeOf 19 = .ok (.if_icmp .ne 7, 3) := by decide +kernel
theorem dX5_placeOf_22 : decode cX5_placeOf 22 = .ok (.iload_n 3, 1) := by decide +kernel
theorem dX5_placeOf_23 : decode cX5_placeOf 23 = .ok (.goto 4, 3) := by decide +kernel
theorem dX5_placeOf_26 : decode cX5_placeOf 26 = .ok (.iload_n 2, 1) := by decide +kernel
theorem dX5_placeOf_27 : decode cX5_placeOf 27 = .ok (.istore_n 2, 1) := by decide +kernel
theorem dX5_placeOf_28 : decode cX5_placeOf 28 = .ok (.iinc 3 1, 3) := by decide +kernel
theorem dX5_placeOf_31 : decode cX5_placeOf 31 = .ok (.goto (-27), 3) := by decide +kernel
theorem dX5_placeOf_34 : decode cX5_placeOf 34 = .ok (.iload_n 2, 1) := by decide +kernel
theorem dX5_placeOf_35 : decode cX5_placeOf 35 = .ok (.ireturn, 1) := by decide +kernel
theorem dX5_waitOf_0 : decode cX5_waitOf 0 = .ok (.iconst (-1), 1) := by decide +kernel
theorem dX5_waitOf_1 : decode cX5_waitOf 1 = .ok (.istore_n 2, 1) := by decide +kernel
theorem dX5_waitOf_2 : decode cX5_waitOf 2 = .ok (.iconst 0, 1) := by decide +kernel
theorem dX5_waitOf_3 : decode cX5_waitOf 3 = .ok (.istore_n 3, 1) := by decide +kernel
theorem dX5_waitOf_4 : decode cX5_waitOf 4 = .ok (.iload_n 3, 1) := by decide +kernel
theorem dX5_waitOf_5 : decode cX5_waitOf 5 = .ok (.aload_n 0, 1) := by decide +kernel
theorem dX5_waitOf_6 : decode cX5_waitOf 6 = .ok (.getfield 114, 3) := by decide +kernel
theorem dX5_waitOf_9 : decode cX5_waitOf 9 = .ok (.if_icmp .ge 25, 3) := by decide +kernel
theorem dX5_waitOf_12 : decode cX5_waitOf 12 = .ok (.aload_n 0, 1) := by decide +kernel
theorem dX5_waitOf_13 : decode cX5_waitOf 13 = .ok (.getfield 20, 3) := by decide +kernel
theorem dX5_waitOf_16 : decode cX5_waitOf 16 = .ok (.iload_n 3, 1) := by decide +kernel
theorem dX5_waitOf_17 : decode cX5_waitOf 17 = .ok (.iaload, 1) := by decide +kernel
theorem dX5_waitOf_18 : decode cX5_waitOf 18 = .ok (.iload_n 1, 1) := by decide +kernel
theorem dX5_waitOf_19 : decode cX5_waitOf 19 = .ok (.if_icmp .ne 7, 3) := by decide +kernel
theorem dX5_waitOf_22 : decode cX5_waitOf 22 = .ok (.iload_n 3, 1) := by decide +kernel
theorem dX5_waitOf_23 : decode cX5_waitOf 23 = .ok (.goto 4, 3) := by decide +kernel
theorem dX5_waitOf_26 : decode cX5_waitOf 26 = .ok (.iload_n 2, 1) := by decide +kernel
theorem dX5_waitOf_27 : decode cX5_waitOf 27 = .ok (.istore_n 2, 1) := by decide +kernel
theorem dX5_waitOf_28 : decode cX5_waitOf 28 = .ok (.iinc 3 1, 3) := by decide +kernel
theorem dX5_waitOf_31 : decode cX5_waitOf 31 = .ok (.goto (-27), 3) := by decide +kernel
theorem dX5_waitOf_34 : decode cX5_waitOf 34 = .ok (.iload_n 2, 1) := by decide +kernel
theorem dX5_waitOf_35 : decode cX5_waitOf 35 = .ok (.ireturn, 1) := by decide +kernel
theorem dX5_unwait_0 : decode cX5_unwait 0 = .ok (.aload_n 0, 1) := by decide +kernel
theorem dX5_unwait_1 : decode cX5_unwait 1 = .ok (.dup, 1) := by decide +kernel
theorem dX5_unwait_2 : decode cX5_unwait 2 = .ok (.getfield 114, 3) := by decide +kernel
theorem dX5_unwait_5 : decode cX5_unwait 5 = .ok (.iconst 1, 1) := by decide +kernel
theorem dX5_unwait_6 : decode cX5_unwait 6 = .ok (.isub, 1) := by decide +kernel
theorem dX5_unwait_7 : decode cX5_unwait 7 = .ok (.putfield 114, 3) := by decide +kernel
theorem dX5_unwait_10 : decode cX5_unwait 10 = .ok (.iload_n 1, 1) := by decide +kernel
theorem dX5_unwait_11 : decode cX5_unwait 11 = .ok (.istore_n 2, 1) := by decide +kernel
theorem dX5_unwait_12 : decode cX5_unwait 12 = .ok (.iload_n 2, 1) := by decide +kernel
theorem dX5_unwait_13 : decode cX5_unwait 13 = .ok (.aload_n 0, 1) := by decide +kernel
theorem dX5_unwait_14 : decode cX5_unwait 14 = .ok (.getfield 114, 3) := by decide +kernel
theorem dX5_unwait_17 : decode cX5_unwait 17 = .ok (.if_icmp .ge 37, 3) := by decide +kernel
theorem dX5_unwait_20 : decode cX5_unwait 20 = .ok (.aload_n 0, 1) := by decide +kernel
theorem dX5_unwait_21 : decode cX5_unwait 21 = .ok (.getfield 20, 3) := by decide +kernel
theorem dX5_unwait_24 : decode cX5_unwait 24 = .ok (.iload_n 2, 1) := by decide +kernel
theorem dX5_unwait_25 : decode cX5_unwait 25 = .ok (.aload_n 0, 1) := by decide +kernel
theorem dX5_unwait_26 : decode cX5_unwait 26 = .ok (.getfield 20, 3) := by decide +kernel
theorem dX5_unwait_29 : decode cX5_unwait 29 = .ok (.iload_n 2, 1) := by decide +kernel
theorem dX5_unwait_30 : decode cX5_unwait 30 = .ok (.iconst 1, 1) := by decide +kernel
theorem dX5_unwait_31 : decode cX5_unwait 31 = .ok (.iadd, 1) := by decide +kernel
theorem dX5_unwait_32 : decode cX5_unwait 32 = .ok (.iaload, 1) := by decide +kernel
theorem dX5_unwait_33 : decode cX5_unwait 33 = .ok (.iastore, 1) := by decide +kernel
theorem dX5_unwait_34 : decode cX5_unwait 34 = .ok (.aload_n 0, 1) := by decide +kernel
theorem dX5_unwait_35 : decode cX5_unwait 35 = .ok (.getfield 23, 3) := by decide +kernel
theorem dX5_unwait_38 : decode cX5_unwait 38 = .ok (.iload_n 2, 1) := by decide +kernel
theorem dX5_unwait_39 : decode cX5_unwait 39 = .ok (.aload_n 0, 1) := by decide +kernel
theorem dX5_unwait_40 : decode cX5_unwait 40 = .ok (.getfield 23, 3) := by decide +kernel
theorem dX5_unwait_43 : decode cX5_unwait 43 = .ok (.iload_n 2, 1) := by decide +kernel
theorem dX5_unwait_44 : decode cX5_unwait 44 = .ok (.iconst 1, 1) := by decide +kernel
theorem dX5_unwait_45 : decode cX5_unwait 45 = .ok (.iadd, 1) := by decide +kernel
theorem dX5_unwait_46 : decode cX5_unwait 46 = .ok (.iaload, 1) := by decide +kernel
theorem dX5_unwait_47 : decode cX5_unwait 47 = .ok (.iastore, 1) := by decide +kernel
theorem dX5_unwait_48 : decode cX5_unwait 48 = .ok (.iinc 2 1, 3) := by decide +kernel
theorem dX5_unwait_51 : decode cX5_unwait 51 = .ok (.goto (-39), 3) := by decide +kernel
theorem dX5_unwait_54 : decode cX5_unwait 54 = .ok (.return_, 1) := by decide +kernel
theorem dX5_owned_0 : decode cX5_owned 0 = .ok (.iconst 0, 1) := by decide +kernel
theorem dX5_owned_1 : decode cX5_owned 1 = .ok (.istore_n 2, 1) := by decide +kernel
theorem dX5_owned_2 : decode cX5_owned 2 = .ok (.iconst 0, 1) := by decide +kernel
theorem dX5_owned_3 : decode cX5_owned 3 = .ok (.istore_n 3, 1) := by decide +kernel
theorem dX5_owned_4 : decode cX5_owned 4 = .ok (.iload_n 3, 1) := by decide +kernel
theorem dX5_owned_5 : decode cX5_owned 5 = .ok (.aload_n 0, 1) := by decide +kernel
theorem dX5_owned_6 : decode cX5_owned 6 = .ok (.getfield 111, 3) := by decide +kernel
theorem dX5_owned_9 : decode cX5_owned 9 = .ok (.if_icmp .ge 27, 3) := by decide +kernel
theorem dX5_owned_12 : decode cX5_owned 12 = .ok (.iload_n 2, 1) := by decide +kernel
theorem dX5_owned_13 : decode cX5_owned 13 = .ok (.aload_n 0, 1) := by decide +kernel
theorem dX5_owned_14 : decode cX5_owned 14 = .ok (.getfield 13, 3) := by decide +kernel
theorem dX5_owned_17 : decode cX5_owned 17 = .ok (.iload_n 3, 1) := by decide +kernel
theorem dX5_owned_18 : decode cX5_owned 18 = .ok (.iaload, 1) := by decide +kernel
theorem dX5_owned_19 : decode cX5_owned 19 = .ok (.iload_n 1, 1) := by decide +kernel
theorem dX5_owned_20 : decode cX5_owned 20 = .ok (.if_icmp .ne 7, 3) := by decide +kernel
theorem dX5_owned_23 : decode cX5_owned 23 = .ok (.iconst 1, 1) := by decide +kernel
theorem dX5_owned_24 : decode cX5_owned 24 = .ok (.goto 4, 3) := by decide +kernel
theorem dX5_owned_27 : decode cX5_owned 27 = .ok (.iconst 0, 1) := by decide +kernel
theorem dX5_owned_28 : decode cX5_owned 28 = .ok (.iadd, 1) := by decide +kernel
theorem dX5_owned_29 : decode cX5_owned 29 = .ok (.istore_n 2, 1) := by decide +kernel
theorem dX5_owned_30 : decode cX5_owned 30 = .ok (.iinc 3 1, 3) := by decide +kernel
theorem dX5_owned_33 : decode cX5_owned 33 = .ok (.goto (-29), 3) := by decide +kernel
theorem dX5_owned_36 : decode cX5_owned 36 = .ok (.iload_n 2, 1) := by decide +kernel
theorem dX5_owned_37 : decode cX5_owned 37 = .ok (.ireturn, 1) := by decide +kernel
theorem dX5_isLeft_0 : decode cX5_isLeft 0 = .ok (.aload_n 0, 1) := by decide +kernel
end
section
theorem dX5_isLeft_1 : decode cX5_isLeft 1 = .ok (.getfield 13, 3) := by decide +kernel
theorem dX5_isLeft_4 : decode cX5_isLeft 4 = .ok (.iload_n 1, 1) := by decide +kernel
theorem dX5_isLeft_5 : decode cX5_isLeft 5 = .ok (.iaload, 1) := by decide +kernel
theorem dX5_isLeft_6 : decode cX5_isLeft 6 = .ok (.istore_n 2, 1) := by decide +kernel
theorem dX5_isLeft_7 : decode cX5_isLeft 7 = .ok (.aload_n 0, 1) := by decide +kernel
theorem dX5_isLeft_8 : decode cX5_isLeft 8 = .ok (.getfield 7, 3) := by decide +kernel
theorem dX5_isLeft_11 : decode cX5_isLeft 11 = .ok (.iload_n 1, 1) := by decide +kernel
theorem dX5_isLeft_12 : decode cX5_isLeft 12 = .ok (.iaload, 1) := by decide +kernel
theorem dX5_isLeft_13 : decode cX5_isLeft 13 = .ok (.istore_n 3, 1) := by decide +kernel
theorem dX5_isLeft_14 : decode cX5_isLeft 14 = .ok (.aload_n 0, 1) := by decide +kernel
theorem dX5_isLeft_15 : decode cX5_isLeft 15 = .ok (.getfield 26, 3) := by decide +kernel
theorem dX5_isLeft_18 : decode cX5_isLeft 18 = .ok (.iload_n 2, 1) := by decide +kernel
theorem dX5_isLeft_19 : decode cX5_isLeft 19 = .ok (.iaload, 1) := by decide +kernel
theorem dX5_isLeft_20 : decode cX5_isLeft 20 = .ok (.iconst 4, 1) := by decide +kernel
theorem dX5_isLeft_21 : decode cX5_isLeft 21 = .ok (.if_icmp .ne 38, 3) := by decide +kernel
theorem dX5_isLeft_24 : decode cX5_isLeft 24 = .ok (.aload_n 0, 1) := by decide +kernel
theorem dX5_isLeft_25 : decode cX5_isLeft 25 = .ok (.getfield 38, 3) := by decide +kernel
theorem dX5_isLeft_28 : decode cX5_isLeft 28 = .ok (.iload_n 2, 1) := by decide +kernel
theorem dX5_isLeft_29 : decode cX5_isLeft 29 = .ok (.iaload, 1) := by decide +kernel
theorem dX5_isLeft_30 : decode cX5_isLeft 30 = .ok (.ifCond .lt 29, 3) := by decide +kernel
theorem dX5_isLeft_33 : decode cX5_isLeft 33 = .ok (.iload_n 3, 1) := by decide +kernel
theorem dX5_isLeft_34 : decode cX5_isLeft 34 = .ok (.i2l, 1) := by decide +kernel
theorem dX5_isLeft_35 : decode cX5_isLeft 35 = .ok (.aload_n 0, 1) := by decide +kernel
theorem dX5_isLeft_36 : decode cX5_isLeft 36 = .ok (.getfield 38, 3) := by decide +kernel
theorem dX5_isLeft_39 : decode cX5_isLeft 39 = .ok (.iload_n 2, 1) := by decide +kernel
theorem dX5_isLeft_40 : decode cX5_isLeft 40 = .ok (.iaload, 1) := by decide +kernel
theorem dX5_isLeft_41 : decode cX5_isLeft 41 = .ok (.i2l, 1) := by decide +kernel
theorem dX5_isLeft_42 : decode cX5_isLeft 42 = .ok (.aload_n 0, 1) := by decide +kernel
theorem dX5_isLeft_43 : decode cX5_isLeft 43 = .ok (.getfield 41, 3) := by decide +kernel
theorem dX5_isLeft_46 : decode cX5_isLeft 46 = .ok (.iload_n 2, 1) := by decide +kernel
theorem dX5_isLeft_47 : decode cX5_isLeft 47 = .ok (.iaload, 1) := by decide +kernel
theorem dX5_isLeft_48 : decode cX5_isLeft 48 = .ok (.i2l, 1) := by decide +kernel
theorem dX5_isLeft_49 : decode cX5_isLeft 49 = .ok (.invokestatic 96, 3) := by decide +kernel
theorem dX5_isLeft_52 : decode cX5_isLeft 52 = .ok (.ifCond .eq 7, 3) := by decide +kernel
theorem dX5_isLeft_55 : decode cX5_isLeft 55 = .ok (.iconst 1, 1) := by decide +kernel
theorem dX5_isLeft_56 : decode cX5_isLeft 56 = .ok (.goto 4, 3) := by decide +kernel
theorem dX5_isLeft_59 : decode cX5_isLeft 59 = .ok (.iconst 0, 1) := by decide +kernel
theorem dX5_isLeft_60 : decode cX5_isLeft 60 = .ok (.istore 4, 2) := by decide +kernel
theorem dX5_isLeft_62 : decode cX5_isLeft 62 = .ok (.iload 4, 2) := by decide +kernel
theorem dX5_isLeft_64 : decode cX5_isLeft 64 = .ok (.ifCond .eq 53, 3) := by decide +kernel
theorem dX5_isLeft_67 : decode cX5_isLeft 67 = .ok (.aload_n 0, 1) := by decide +kernel
theorem dX5_isLeft_68 : decode cX5_isLeft 68 = .ok (.getfield 44, 3) := by decide +kernel
theorem dX5_isLeft_71 : decode cX5_isLeft 71 = .ok (.iload_n 2, 1) := by decide +kernel
theorem dX5_isLeft_72 : decode cX5_isLeft 72 = .ok (.iaload, 1) := by decide +kernel
theorem dX5_isLeft_73 : decode cX5_isLeft 73 = .ok (.ifCond .lt 44, 3) := by decide +kernel
theorem dX5_isLeft_76 : decode cX5_isLeft 76 = .ok (.aload_n 0, 1) := by decide +kernel
theorem dX5_isLeft_77 : decode cX5_isLeft 77 = .ok (.getfield 44, 3) := by decide +kernel
theorem dX5_isLeft_80 : decode cX5_isLeft 80 = .ok (.iload_n 2, 1) := by decide +kernel
theorem dX5_isLeft_81 : decode cX5_isLeft 81 = .ok (.iaload, 1) := by decide +kernel
theorem dX5_isLeft_82 : decode cX5_isLeft 82 = .ok (.i2l, 1) := by decide +kernel
theorem dX5_isLeft_83 : decode cX5_isLeft 83 = .ok (.aload_n 0, 1) := by decide +kernel
theorem dX5_isLeft_84 : decode cX5_isLeft 84 = .ok (.getfield 38, 3) := by decide +kernel
theorem dX5_isLeft_87 : decode cX5_isLeft 87 = .ok (.iload_n 2, 1) := by decide +kernel
theorem dX5_isLeft_88 : decode cX5_isLeft 88 = .ok (.iaload, 1) := by decide +kernel
theorem dX5_isLeft_89 : decode cX5_isLeft 89 = .ok (.i2l, 1) := by decide +kernel
theorem dX5_isLeft_90 : decode cX5_isLeft 90 = .ok (.aload_n 0, 1) := by decide +kernel
theorem dX5_isLeft_91 : decode cX5_isLeft 91 = .ok (.getfield 41, 3) := by decide +kernel
theorem dX5_isLeft_94 : decode cX5_isLeft 94 = .ok (.iload_n 2, 1) := by decide +kernel
theorem dX5_isLeft_95 : decode cX5_isLeft 95 = .ok (.iaload, 1) := by decide +kernel
theorem dX5_isLeft_96 : decode cX5_isLeft 96 = .ok (.i2l, 1) := by decide +kernel
theorem dX5_isLeft_97 : decode cX5_isLeft 97 = .ok (.invokestatic 96, 3) := by decide +kernel
theorem dX5_isLeft_100 : decode cX5_isLeft 100 = .ok (.ifCond .eq 13, 3) := by decide +kernel
theorem dX5_isLeft_103 : decode cX5_isLeft 103 = .ok (.aload_n 0, 1) := by decide +kernel
theorem dX5_isLeft_104 : decode cX5_isLeft 104 = .ok (.getfield 44, 3) := by decide +kernel
theorem dX5_isLeft_107 : decode cX5_isLeft 107 = .ok (.iload_n 2, 1) := by decide +kernel
theorem dX5_isLeft_108 : decode cX5_isLeft 108 = .ok (.iaload, 1) := by decide +kernel
theorem dX5_isLeft_109 : decode cX5_isLeft 109 = .ok (.iload_n 3, 1) := by decide +kernel
theorem dX5_isLeft_110 : decode cX5_isLeft 110 = .ok (.if_icmp .le 7, 3) := by decide +kernel
theorem dX5_isLeft_113 : decode cX5_isLeft 113 = .ok (.iconst 1, 1) := by decide +kernel
theorem dX5_isLeft_114 : decode cX5_isLeft 114 = .ok (.goto 4, 3) := by decide +kernel
theorem dX5_isLeft_117 : decode cX5_isLeft 117 = .ok (.iconst 0, 1) := by decide +kernel
theorem dX5_isLeft_118 : decode cX5_isLeft 118 = .ok (.ireturn, 1) := by decide +kernel
theorem dX5_waste_0 : decode cX5_waste 0 = .ok (.aload_n 0, 1) := by decide +kernel
theorem dX5_waste_1 : decode cX5_waste 1 = .ok (.getfield 53, 3) := by decide +kernel
theorem dX5_waste_4 : decode cX5_waste 4 = .ok (.bipush 7, 2) := by decide +kernel
theorem dX5_waste_6 : decode cX5_waste 6 = .ok (.iload_n 1, 1) := by decide +kernel
theorem dX5_waste_7 : decode cX5_waste 7 = .ok (.imul, 1) := by decide +kernel
theorem dX5_waste_8 : decode cX5_waste 8 = .ok (.iconst 4, 1) := by decide +kernel
theorem dX5_waste_9 : decode cX5_waste 9 = .ok (.iadd, 1) := by decide +kernel
theorem dX5_waste_10 : decode cX5_waste 10 = .ok (.dup2, 1) := by decide +kernel
theorem dX5_waste_11 : decode cX5_waste 11 = .ok (.iaload, 1) := by decide +kernel
theorem dX5_waste_12 : decode cX5_waste 12 = .ok (.iconst 1, 1) := by decide +kernel
theorem dX5_waste_13 : decode cX5_waste 13 = .ok (.iadd, 1) := by decide +kernel
theorem dX5_waste_14 : decode cX5_waste 14 = .ok (.iastore, 1) := by decide +kernel
theorem dX5_waste_15 : decode cX5_waste 15 = .ok (.aload_n 0, 1) := by decide +kernel
theorem dX5_waste_16 : decode cX5_waste 16 = .ok (.getfield 32, 3) := by decide +kernel
theorem dX5_waste_19 : decode cX5_waste 19 = .ok (.iload_n 1, 1) := by decide +kernel
theorem dX5_waste_20 : decode cX5_waste 20 = .ok (.aload_n 0, 1) := by decide +kernel
theorem dX5_waste_21 : decode cX5_waste 21 = .ok (.getfield 26, 3) := by decide +kernel
theorem dX5_waste_24 : decode cX5_waste 24 = .ok (.iload_n 1, 1) := by decide +kernel
theorem dX5_waste_25 : decode cX5_waste 25 = .ok (.iaload, 1) := by decide +kernel
theorem dX5_waste_26 : decode cX5_waste 26 = .ok (.iconst 5, 1) := by decide +kernel
theorem dX5_waste_27 : decode cX5_waste 27 = .ok (.if_icmp .ne 14, 3) := by decide +kernel
theorem dX5_waste_30 : decode cX5_waste 30 = .ok (.aload_n 0, 1) := by decide +kernel
theorem dX5_waste_31 : decode cX5_waste 31 = .ok (.getfield 32, 3) := by decide +kernel
theorem dX5_waste_34 : decode cX5_waste 34 = .ok (.iload_n 1, 1) := by decide +kernel
theorem dX5_waste_35 : decode cX5_waste 35 = .ok (.iaload, 1) := by decide +kernel
theorem dX5_waste_36 : decode cX5_waste 36 = .ok (.iconst 2, 1) := by decide +kernel
theorem dX5_waste_37 : decode cX5_waste 37 = .ok (.idiv, 1) := by decide +kernel
theorem dX5_waste_38 : decode cX5_waste 38 = .ok (.goto 9, 3) := by decide +kernel
theorem dX5_waste_41 : decode cX5_waste 41 = .ok (.aload_n 0, 1) := by decide +kernel
theorem dX5_waste_42 : decode cX5_waste 42 = .ok (.getfield 32, 3) := by decide +kernel
theorem dX5_waste_45 : decode cX5_waste 45 = .ok (.iload_n 1, 1) := by decide +kernel
theorem dX5_waste_46 : decode cX5_waste 46 = .ok (.iaload, 1) := by decide +kernel
theorem dX5_waste_47 : decode cX5_waste 47 = .ok (.iastore, 1) := by decide +kernel
theorem dX5_waste_48 : decode cX5_waste 48 = .ok (.return_, 1) := by decide +kernel
theorem dX5_drop_0 : decode cX5_drop 0 = .ok (.aload_n 0, 1) := by decide +kernel
theorem dX5_drop_1 : decode cX5_drop 1 = .ok (.dup, 1) := by decide +kernel
theorem dX5_drop_2 : decode cX5_drop 2 = .ok (.getfield 111, 3) := by decide +kernel
theorem dX5_drop_5 : decode cX5_drop 5 = .ok (.iconst 1, 1) := by decide +kernel
theorem dX5_drop_6 : decode cX5_drop 6 = .ok (.isub, 1) := by decide +kernel
theorem dX5_drop_7 : decode cX5_drop 7 = .ok (.putfield 111, 3) := by decide +kernel
theorem dX5_drop_10 : decode cX5_drop 10 = .ok (.iload_n 1, 1) := by decide +kernel
theorem dX5_drop_11 : decode cX5_drop 11 = .ok (.istore_n 2, 1) := by decide +kernel
theorem dX5_drop_12 : decode cX5_drop 12 = .ok (.iload_n 2, 1) := by decide +kernel
theorem dX5_drop_13 : decode cX5_drop 13 = .ok (.aload_n 0, 1) := by decide +kernel
theorem dX5_drop_14 : decode cX5_drop 14 = .ok (.getfield 111, 3) := by decide +kernel
theorem dX5_drop_17 : decode cX5_drop 17 = .ok (.if_icmp .ge 51, 3) := by decide +kernel
theorem dX5_drop_20 : decode cX5_drop 20 = .ok (.aload_n 0, 1) := by decide +kernel
theorem dX5_drop_21 : decode cX5_drop 21 = .ok (.getfield 7, 3) := by decide +kernel
theorem dX5_drop_24 : decode cX5_drop 24 = .ok (.iload_n 2, 1) := by decide +kernel
theorem dX5_drop_25 : decode cX5_drop 25 = .ok (.aload_n 0, 1) := by decide +kernel
theorem dX5_drop_26 : decode cX5_drop 26 = .ok (.getfield 7, 3) := by decide +kernel
theorem dX5_drop_29 : decode cX5_drop 29 = .ok (.iload_n 2, 1) := by decide +kernel
theorem dX5_drop_30 : decode cX5_drop 30 = .ok (.iconst 1, 1) := by decide +kernel
theorem dX5_drop_31 : decode cX5_drop 31 = .ok (.iadd, 1) := by decide +kernel
theorem dX5_drop_32 : decode cX5_drop 32 = .ok (.iaload, 1) := by decide +kernel
theorem dX5_drop_33 : decode cX5_drop 33 = .ok (.iastore, 1) := by decide +kernel
theorem dX5_drop_34 : decode cX5_drop 34 = .ok (.aload_n 0, 1) := by decide +kernel
theorem dX5_drop_35 : decode cX5_drop 35 = .ok (.getfield 13, 3) := by decide +kernel
theorem dX5_drop_38 : decode cX5_drop 38 = .ok (.iload_n 2, 1) := by decide +kernel
theorem dX5_drop_39 : decode cX5_drop 39 = .ok (.aload_n 0, 1) := by decide +kernel
theorem dX5_drop_40 : decode cX5_drop 40 = .ok (.getfield 13, 3) := by decide +kernel
theorem dX5_drop_43 : decode cX5_drop 43 = .ok (.iload_n 2, 1) := by decide +kernel
theorem dX5_drop_44 : decode cX5_drop 44 = .ok (.iconst 1, 1) := by decide +kernel
theorem dX5_drop_45 : decode cX5_drop 45 = .ok (.iadd, 1) := by decide +kernel
theorem dX5_drop_46 : decode cX5_drop 46 = .ok (.iaload, 1) := by decide +kernel
theorem dX5_drop_47 : decode cX5_drop 47 = .ok (.iastore, 1) := by decide +kernel
theorem dX5_drop_48 : decode cX5_drop 48 = .ok (.aload_n 0, 1) := by decide +kernel
theorem dX5_drop_49 : decode cX5_drop 49 = .ok (.getfield 16, 3) := by decide +kernel
theorem dX5_drop_52 : decode cX5_drop 52 = .ok (.iload_n 2, 1) := by decide +kernel
theorem dX5_drop_53 : decode cX5_drop 53 = .ok (.aload_n 0, 1) := by decide +kernel
theorem dX5_drop_54 : decode cX5_drop 54 = .ok (.getfield 16, 3) := by decide +kernel
theorem dX5_drop_57 : decode cX5_drop 57 = .ok (.iload_n 2, 1) := by decide +kernel
theorem dX5_drop_58 : decode cX5_drop 58 = .ok (.iconst 1, 1) := by decide +kernel
theorem dX5_drop_59 : decode cX5_drop 59 = .ok (.iadd, 1) := by decide +kernel
theorem dX5_drop_60 : decode cX5_drop 60 = .ok (.baload, 1) := by decide +kernel
theorem dX5_drop_61 : decode cX5_drop 61 = .ok (.bastore, 1) := by decide +kernel
theorem dX5_drop_62 : decode cX5_drop 62 = .ok (.iinc 2 1, 3) := by decide +kernel
theorem dX5_drop_65 : decode cX5_drop 65 = .ok (.goto (-53), 3) := by decide +kernel
theorem dX5_drop_68 : decode cX5_drop 68 = .ok (.return_, 1) := by decide +kernel
theorem dX5_makesRoom_0 : decode cX5_makesRoom 0 = .ok (.aload_n 0, 1) := by decide +kernel
theorem dX5_makesRoom_1 : decode cX5_makesRoom 1 = .ok (.getfield 111, 3) := by decide +kernel
theorem dX5_makesRoom_4 : decode cX5_makesRoom 4 = .ok (.aload_n 0, 1) := by decide +kernel
theorem dX5_makesRoom_5 : decode cX5_makesRoom 5 = .ok (.getfield 102, 3) := by decide +kernel
theorem dX5_makesRoom_8 : decode cX5_makesRoom 8 = .ok (.if_icmp .ge 5, 3) := by decide +kernel
theorem dX5_makesRoom_11 : decode cX5_makesRoom 11 = .ok (.iconst 1, 1) := by decide +kernel
theorem dX5_makesRoom_12 : decode cX5_makesRoom 12 = .ok (.ireturn, 1) := by decide +kernel
theorem dX5_makesRoom_13 : decode cX5_makesRoom 13 = .ok (.iconst (-1), 1) := by decide +kernel
theorem dX5_makesRoom_14 : decode cX5_makesRoom 14 = .ok (.istore_n 2, 1) := by decide +kernel
theorem dX5_makesRoom_15 : decode cX5_makesRoom 15 = .ok (.iconst (-1), 1) := by decide +kernel
theorem dX5_makesRoom_16 : decode cX5_makesRoom 16 = .ok (.istore_n 3, 1) := by decide +kernel
theorem dX5_makesRoom_17 : decode cX5_makesRoom 17 = .ok (.aload_n 0, 1) := by decide +kernel
theorem dX5_makesRoom_18 : decode cX5_makesRoom 18 = .ok (.getfield 111, 3) := by decide +kernel
theorem dX5_makesRoom_21 : decode cX5_makesRoom 21 = .ok (.iconst 1, 1) := by decide +kernel
theorem dX5_makesRoom_22 : decode cX5_makesRoom 22 = .ok (.isub, 1) := by decide +kernel
theorem dX5_makesRoom_23 : decode cX5_makesRoom 23 = .ok (.istore 4, 2) := by decide +kernel
theorem dX5_makesRoom_25 : decode cX5_makesRoom 25 = .ok (.iload 4, 2) := by decide +kernel
theorem dX5_makesRoom_27 : decode cX5_makesRoom 27 = .ok (.ifCond .lt 65, 3) := by decide +kernel
theorem dX5_makesRoom_30 : decode cX5_makesRoom 30 = .ok (.aload_n 0, 1) := by decide +kernel
theorem dX5_makesRoom_31 : decode cX5_makesRoom 31 = .ok (.getfield 13, 3) := by decide +kernel
theorem dX5_makesRoom_34 : decode cX5_makesRoom 34 = .ok (.iload 4, 2) := by decide +kernel
theorem dX5_makesRoom_36 : decode cX5_makesRoom 36 = .ok (.iaload, 1) := by decide +kernel
theorem dX5_makesRoom_37 : decode cX5_makesRoom 37 = .ok (.iload_n 1, 1) := by decide +kernel
theorem dX5_makesRoom_38 : decode cX5_makesRoom 38 = .ok (.if_icmp .eq 29, 3) := by decide +kernel
theorem dX5_makesRoom_41 : decode cX5_makesRoom 41 = .ok (.aload_n 0, 1) := by decide +kernel
theorem dX5_makesRoom_42 : decode cX5_makesRoom 42 = .ok (.aload_n 0, 1) := by decide +kernel
theorem dX5_makesRoom_43 : decode cX5_makesRoom 43 = .ok (.getfield 13, 3) := by decide +kernel
theorem dX5_makesRoom_46 : decode cX5_makesRoom 46 = .ok (.iload 4, 2) := by decide +kernel
theorem dX5_makesRoom_48 : decode cX5_makesRoom 48 = .ok (.iaload, 1) := by decide +kernel
theorem dX5_makesRoom_49 : decode cX5_makesRoom 49 = .ok (.invokevirtual 148, 3) := by decide +kernel
theorem dX5_makesRoom_52 : decode cX5_makesRoom 52 = .ok (.aload_n 0, 1) := by decide +kernel
theorem dX5_makesRoom_53 : decode cX5_makesRoom 53 = .ok (.getfield 35, 3) := by decide +kernel
theorem dX5_makesRoom_56 : decode cX5_makesRoom 56 = .ok (.aload_n 0, 1) := by decide +kernel
theorem dX5_makesRoom_57 : decode cX5_makesRoom 57 = .ok (.getfield 13, 3) := by decide +kernel
theorem dX5_makesRoom_60 : decode cX5_makesRoom 60 = .ok (.iload 4, 2) := by decide +kernel
theorem dX5_makesRoom_62 : decode cX5_makesRoom 62 = .ok (.iaload, 1) := by decide +kernel
theorem dX5_makesRoom_63 : decode cX5_makesRoom 63 = .ok (.iaload, 1) := by decide +kernel
theorem dX5_makesRoom_64 : decode cX5_makesRoom 64 = .ok (.if_icmp .le 22, 3) := by decide +kernel
theorem dX5_makesRoom_67 : decode cX5_makesRoom 67 = .ok (.iload 4, 2) := by decide +kernel
theorem dX5_makesRoom_69 : decode cX5_makesRoom 69 = .ok (.istore_n 2, 1) := by decide +kernel
theorem dX5_makesRoom_70 : decode cX5_makesRoom 70 = .ok (.aload_n 0, 1) := by decide +kernel
theorem dX5_makesRoom_71 : decode cX5_makesRoom 71 = .ok (.iload 4, 2) := by decide +kernel
theorem dX5_makesRoom_73 : decode cX5_makesRoom 73 = .ok (.invokevirtual 151, 3) := by decide +kernel
theorem dX5_makesRoom_76 : decode cX5_makesRoom 76 = .ok (.ifCond .eq 8, 3) := by decide +kernel
theorem dX5_makesRoom_79 : decode cX5_makesRoom 79 = .ok (.iload 4, 2) := by decide +kernel
theorem dX5_makesRoom_81 : decode cX5_makesRoom 81 = .ok (.goto 4, 3) := by decide +kernel
theorem dX5_makesRoom_84 : decode cX5_makesRoom 84 = .ok (.iload_n 3, 1) := by decide +kernel
theorem dX5_makesRoom_85 : decode cX5_makesRoom 85 = .ok (.istore_n 3, 1) := by decide +kernel
theorem dX5_makesRoom_86 : decode cX5_makesRoom 86 = .ok (.iinc 4 (-1), 3) := by decide +kernel
theorem dX5_makesRoom_89 : decode cX5_makesRoom 89 = .ok (.goto (-64), 3) := by decide +kernel
theorem dX5_makesRoom_92 : decode cX5_makesRoom 92 = .ok (.iload_n 3, 1) := by decide +kernel
theorem dX5_makesRoom_93 : decode cX5_makesRoom 93 = .ok (.ifCond .lt 7, 3) := by decide +kernel
theorem dX5_makesRoom_96 : decode cX5_makesRoom 96 = .ok (.iload_n 3, 1) := by decide +kernel
theorem dX5_makesRoom_97 : decode cX5_makesRoom 97 = .ok (.goto 4, 3) := by decide +kernel
theorem dX5_makesRoom_100 : decode cX5_makesRoom 100 = .ok (.iload_n 2, 1) := by decide +kernel
theorem dX5_makesRoom_101 : decode cX5_makesRoom 101 = .ok (.istore 4, 2) := by decide +kernel
theorem dX5_makesRoom_103 : decode cX5_makesRoom 103 = .ok (.iload 4, 2) := by decide +kernel
theorem dX5_makesRoom_105 : decode cX5_makesRoom 105 = .ok (.ifCond .ge 5, 3) := by decide +kernel
theorem dX5_makesRoom_108 : decode cX5_makesRoom 108 = .ok (.iconst 0, 1) := by decide +kernel
theorem dX5_makesRoom_109 : decode cX5_makesRoom 109 = .ok (.ireturn, 1) := by decide +kernel
theorem dX5_makesRoom_110 : decode cX5_makesRoom 110 = .ok (.aload_n 0, 1) := by decide +kernel
theorem dX5_makesRoom_111 : decode cX5_makesRoom 111 = .ok (.getfield 16, 3) := by decide +kernel
theorem dX5_makesRoom_114 : decode cX5_makesRoom 114 = .ok (.iload 4, 2) := by decide +kernel
theorem dX5_makesRoom_116 : decode cX5_makesRoom 116 = .ok (.baload, 1) := by decide +kernel
theorem dX5_makesRoom_117 : decode cX5_makesRoom 117 = .ok (.ifCond .eq 14, 3) := by decide +kernel
theorem dX5_makesRoom_120 : decode cX5_makesRoom 120 = .ok (.aload_n 0, 1) := by decide +kernel
theorem dX5_makesRoom_121 : decode cX5_makesRoom 121 = .ok (.aload_n 0, 1) := by decide +kernel
theorem dX5_makesRoom_122 : decode cX5_makesRoom 122 = .ok (.getfield 13, 3) := by decide +kernel
theorem dX5_makesRoom_125 : decode cX5_makesRoom 125 = .ok (.iload 4, 2) := by decide +kernel
theorem dX5_makesRoom_127 : decode cX5_makesRoom 127 = .ok (.iaload, 1) := by decide +kernel
theorem dX5_makesRoom_128 : decode cX5_makesRoom 128 = .ok (.invokevirtual 154, 3) := by decide +kernel
theorem dX5_makesRoom_131 : decode cX5_makesRoom 131 = .ok (.aload_n 0, 1) := by decide +kernel
theorem dX5_makesRoom_132 : decode cX5_makesRoom 132 = .ok (.iload 4, 2) := by decide +kernel
theorem dX5_makesRoom_134 : decode cX5_makesRoom 134 = .ok (.invokevirtual 158, 3) := by decide +kernel
theorem dX5_makesRoom_137 : decode cX5_makesRoom 137 = .ok (.iconst 1, 1) := by decide +kernel
theorem dX5_makesRoom_138 : decode cX5_makesRoom 138 = .ok (.ireturn, 1) := by decide +kernel
theorem dX5_serve_0 : decode cX5_serve 0 = .ok (.aload_n 0, 1) := by decide +kernel
theorem dX5_serve_1 : decode cX5_serve 1 = .ok (.dup, 1) := by decide +kernel
theorem dX5_serve_2 : decode cX5_serve 2 = .ok (.getfield 123, 3) := by decide +kernel
theorem dX5_serve_5 : decode cX5_serve 5 = .ok (.iload_n 1, 1) := by decide +kernel
theorem dX5_serve_6 : decode cX5_serve 6 = .ok (.aload_n 0, 1) := by decide +kernel
theorem dX5_serve_7 : decode cX5_serve 7 = .ok (.getfield 117, 3) := by decide +kernel
theorem dX5_serve_10 : decode cX5_serve 10 = .ok (.if_icmp .le 12, 3) := by decide +kernel
theorem dX5_serve_13 : decode cX5_serve 13 = .ok (.iload_n 1, 1) := by decide +kernel
theorem dX5_serve_14 : decode cX5_serve 14 = .ok (.aload_n 0, 1) := by decide +kernel
theorem dX5_serve_15 : decode cX5_serve 15 = .ok (.getfield 117, 3) := by decide +kernel
theorem dX5_serve_18 : decode cX5_serve 18 = .ok (.isub, 1) := by decide +kernel
theorem dX5_serve_19 : decode cX5_serve 19 = .ok (.goto 9, 3) := by decide +kernel
theorem dX5_serve_22 : decode cX5_serve 22 = .ok (.aload_n 0, 1) := by decide +kernel
theorem dX5_serve_23 : decode cX5_serve 23 = .ok (.getfield 117, 3) := by decide +kernel
theorem dX5_serve_26 : decode cX5_serve 26 = .ok (.iload_n 1, 1) := by decide +kernel
theorem dX5_serve_27 : decode cX5_serve 27 = .ok (.isub, 1) := by decide +kernel
theorem dX5_serve_28 : decode cX5_serve 28 = .ok (.iadd, 1) := by decide +kernel
theorem dX5_serve_29 : decode cX5_serve 29 = .ok (.putfield 123, 3) := by decide +kernel
theorem dX5_serve_32 : decode cX5_serve 32 = .ok (.aload_n 0, 1) := by decide +kernel
theorem dX5_serve_33 : decode cX5_serve 33 = .ok (.iload_n 1, 1) := by decide +kernel
theorem dX5_serve_34 : decode cX5_serve 34 = .ok (.putfield 117, 3) := by decide +kernel
theorem dX5_serve_37 : decode cX5_serve 37 = .ok (.aload_n 0, 1) := by decide +kernel
theorem dX5_serve_38 : decode cX5_serve 38 = .ok (.getfield 53, 3) := by decide +kernel
theorem dX5_serve_41 : decode cX5_serve 41 = .ok (.bipush 7, 2) := by decide +kernel
theorem dX5_serve_43 : decode cX5_serve 43 = .ok (.iload_n 2, 1) := by decide +kernel
theorem dX5_serve_44 : decode cX5_serve 44 = .ok (.imul, 1) := by decide +kernel
theorem dX5_serve_45 : decode cX5_serve 45 = .ok (.iconst 3, 1) := by decide +kernel
theorem dX5_serve_46 : decode cX5_serve 46 = .ok (.iadd, 1) := by decide +kernel
theorem dX5_serve_47 : decode cX5_serve 47 = .ok (.dup2, 1) := by decide +kernel
theorem dX5_serve_48 : decode cX5_serve 48 = .ok (.iaload, 1) := by decide +kernel
theorem dX5_serve_49 : decode cX5_serve 49 = .ok (.iload_n 3, 1) := by decide +kernel
theorem dX5_serve_50 : decode cX5_serve 50 = .ok (.ifCond .eq 7, 3) := by decide +kernel
theorem dX5_serve_53 : decode cX5_serve 53 = .ok (.iconst 1, 1) := by decide +kernel
theorem dX5_serve_54 : decode cX5_serve 54 = .ok (.goto 4, 3) := by decide +kernel
theorem dX5_serve_57 : decode cX5_serve 57 = .ok (.iconst 0, 1) := by decide +kernel
theorem dX5_serve_58 : decode cX5_serve 58 = .ok (.iadd, 1) := by decide +kernel
theorem dX5_serve_59 : decode cX5_serve 59 = .ok (.iastore, 1) := by decide +kernel
theorem dX5_serve_60 : decode cX5_serve 60 = .ok (.aload_n 0, 1) := by decide +kernel
theorem dX5_serve_61 : decode cX5_serve 61 = .ok (.iload_n 2, 1) := by decide +kernel
theorem dX5_serve_62 : decode cX5_serve 62 = .ok (.invokevirtual 161, 3) := by decide +kernel
theorem dX5_serve_65 : decode cX5_serve 65 = .ok (.ifCond .eq 56, 3) := by decide +kernel
theorem dX5_serve_68 : decode cX5_serve 68 = .ok (.aload_n 0, 1) := by decide +kernel
theorem dX5_serve_69 : decode cX5_serve 69 = .ok (.getfield 7, 3) := by decide +kernel
theorem dX5_serve_72 : decode cX5_serve 72 = .ok (.aload_n 0, 1) := by decide +kernel
theorem dX5_serve_73 : decode cX5_serve 73 = .ok (.getfield 111, 3) := by decide +kernel
theorem dX5_serve_76 : decode cX5_serve 76 = .ok (.iload_n 1, 1) := by decide +kernel
theorem dX5_serve_77 : decode cX5_serve 77 = .ok (.iastore, 1) := by decide +kernel
theorem dX5_serve_78 : decode cX5_serve 78 = .ok (.aload_n 0, 1) := by decide +kernel
theorem dX5_serve_79 : decode cX5_serve 79 = .ok (.getfield 13, 3) := by decide +kernel
theorem dX5_serve_82 : decode cX5_serve 82 = .ok (.aload_n 0, 1) := by decide +kernel
theorem dX5_serve_83 : decode cX5_serve 83 = .ok (.getfield 111, 3) := by decide +kernel
theorem dX5_serve_86 : decode cX5_serve 86 = .ok (.iload_n 2, 1) := by decide +kernel
theorem dX5_serve_87 : decode cX5_serve 87 = .ok (.iastore, 1) := by decide +kernel
theorem dX5_serve_88 : decode cX5_serve 88 = .ok (.aload_n 0, 1) := by decide +kernel
theorem dX5_serve_89 : decode cX5_serve 89 = .ok (.getfield 16, 3) := by decide +kernel
theorem dX5_serve_92 : decode cX5_serve 92 = .ok (.aload_n 0, 1) := by decide +kernel
theorem dX5_serve_93 : decode cX5_serve 93 = .ok (.getfield 111, 3) := by decide +kernel
theorem dX5_serve_96 : decode cX5_serve 96 = .ok (.iload_n 3, 1) := by decide +kernel
theorem dX5_serve_97 : decode cX5_serve 97 = .ok (.bastore, 1) := by decide +kernel
theorem dX5_serve_98 : decode cX5_serve 98 = .ok (.aload_n 0, 1) := by decide +kernel
theorem dX5_serve_99 : decode cX5_serve 99 = .ok (.dup, 1) := by decide +kernel
theorem dX5_serve_100 : decode cX5_serve 100 = .ok (.getfield 111, 3) := by decide +kernel
theorem dX5_serve_103 : decode cX5_serve 103 = .ok (.iconst 1, 1) := by decide +kernel
theorem dX5_serve_104 : decode cX5_serve 104 = .ok (.iadd, 1) := by decide +kernel
theorem dX5_serve_105 : decode cX5_serve 105 = .ok (.putfield 111, 3) := by decide +kernel
theorem dX5_serve_108 : decode cX5_serve 108 = .ok (.aload_n 0, 1) := by decide +kernel
theorem dX5_serve_109 : decode cX5_serve 109 = .ok (.dup, 1) := by decide +kernel
theorem dX5_serve_110 : decode cX5_serve 110 = .ok (.getfield 164, 3) := by decide +kernel
theorem dX5_serve_113 : decode cX5_serve 113 = .ok (.iconst 1, 1) := by decide +kernel
theorem dX5_serve_114 : decode cX5_serve 114 = .ok (.iadd, 1) := by decide +kernel
theorem dX5_serve_115 : decode cX5_serve 115 = .ok (.putfield 164, 3) := by decide +kernel
theorem dX5_serve_118 : decode cX5_serve 118 = .ok (.goto 31, 3) := by decide +kernel
theorem dX5_serve_121 : decode cX5_serve 121 = .ok (.iload_n 3, 1) := by decide +kernel
theorem dX5_serve_122 : decode cX5_serve 122 = .ok (.ifCond .eq 11, 3) := by decide +kernel
theorem dX5_serve_125 : decode cX5_serve 125 = .ok (.aload_n 0, 1) := by decide +kernel
theorem dX5_serve_126 : decode cX5_serve 126 = .ok (.iload_n 2, 1) := by decide +kernel
theorem dX5_serve_127 : decode cX5_serve 127 = .ok (.invokevirtual 154, 3) := by decide +kernel
theorem dX5_serve_130 : decode cX5_serve 130 = .ok (.goto 19, 3) := by decide +kernel
theorem dX5_serve_133 : decode cX5_serve 133 = .ok (.aload_n 0, 1) := by decide +kernel
theorem dX5_serve_134 : decode cX5_serve 134 = .ok (.getfield 53, 3) := by decide +kernel
theorem dX5_serve_137 : decode cX5_serve 137 = .ok (.bipush 7, 2) := by decide +kernel
theorem dX5_serve_139 : decode cX5_serve 139 = .ok (.iload_n 2, 1) := by decide +kernel
theorem dX5_serve_140 : decode cX5_serve 140 = .ok (.imul, 1) := by decide +kernel
theorem dX5_serve_141 : decode cX5_serve 141 = .ok (.bipush 6, 2) := by decide +kernel
theorem dX5_serve_143 : decode cX5_serve 143 = .ok (.iadd, 1) := by decide +kernel
theorem dX5_serve_144 : decode cX5_serve 144 = .ok (.dup2, 1) := by decide +kernel
theorem dX5_serve_145 : decode cX5_serve 145 = .ok (.iaload, 1) := by decide +kernel
theorem dX5_serve_146 : decode cX5_serve 146 = .ok (.iconst 1, 1) := by decide +kernel
theorem dX5_serve_147 : decode cX5_serve 147 = .ok (.iadd, 1) := by decide +kernel
theorem dX5_serve_148 : decode cX5_serve 148 = .ok (.iastore, 1) := by decide +kernel
theorem dX5_serve_149 : decode cX5_serve 149 = .ok (.return_, 1) := by decide +kernel
theorem dX5_nearest_0 : decode cX5_nearest 0 = .ok (.iconst (-1), 1) := by decide +kernel
theorem dX5_nearest_1 : decode cX5_nearest 1 = .ok (.istore_n 1, 1) := by decide +kernel
theorem dX5_nearest_2 : decode cX5_nearest 2 = .ok (.iconst 0, 1) := by decide +kernel
theorem dX5_nearest_3 : decode cX5_nearest 3 = .ok (.istore_n 2, 1) := by decide +kernel
theorem dX5_nearest_4 : decode cX5_nearest 4 = .ok (.iconst 0, 1) := by decide +kernel
theorem dX5_nearest_5 : decode cX5_nearest 5 = .ok (.istore_n 3, 1) := by decide +kernel
theorem dX5_nearest_6 : decode cX5_nearest 6 = .ok (.iload_n 3, 1) := by decide +kernel
theorem dX5_nearest_7 : decode cX5_nearest 7 = .ok (.aload_n 0, 1) := by decide +kernel
theorem dX5_nearest_8 : decode cX5_nearest 8 = .ok (.getfield 114, 3) := by decide +kernel
theorem dX5_nearest_11 : decode cX5_nearest 11 = .ok (.if_icmp .ge 85, 3) := by decide +kernel
theorem dX5_nearest_14 : decode cX5_nearest 14 = .ok (.aload_n 0, 1) := by decide +kernel
theorem dX5_nearest_15 : decode cX5_nearest 15 = .ok (.getfield 20, 3) := by decide +kernel
theorem dX5_nearest_18 : decode cX5_nearest 18 = .ok (.iload_n 3, 1) := by decide +kernel
theorem dX5_nearest_19 : decode cX5_nearest 19 = .ok (.iaload, 1) := by decide +kernel
theorem dX5_nearest_20 : decode cX5_nearest 20 = .ok (.aload_n 0, 1) := by decide +kernel
theorem dX5_nearest_21 : decode cX5_nearest 21 = .ok (.getfield 117, 3) := by decide +kernel
theorem dX5_nearest_24 : decode cX5_nearest 24 = .ok (.if_icmp .le 17, 3) := by decide +kernel
theorem dX5_nearest_27 : decode cX5_nearest 27 = .ok (.aload_n 0, 1) := by decide +kernel
theorem dX5_nearest_28 : decode cX5_nearest 28 = .ok (.getfield 20, 3) := by decide +kernel
theorem dX5_nearest_31 : decode cX5_nearest 31 = .ok (.iload_n 3, 1) := by decide +kernel
theorem dX5_nearest_32 : decode cX5_nearest 32 = .ok (.iaload, 1) := by decide +kernel
theorem dX5_nearest_33 : decode cX5_nearest 33 = .ok (.aload_n 0, 1) := by decide +kernel
theorem dX5_nearest_34 : decode cX5_nearest 34 = .ok (.getfield 117, 3) := by decide +kernel
theorem dX5_nearest_37 : decode cX5_nearest 37 = .ok (.isub, 1) := by decide +kernel
theorem dX5_nearest_38 : decode cX5_nearest 38 = .ok (.goto 14, 3) := by decide +kernel
theorem dX5_nearest_41 : decode cX5_nearest 41 = .ok (.aload_n 0, 1) := by decide +kernel
theorem dX5_nearest_42 : decode cX5_nearest 42 = .ok (.getfield 117, 3) := by decide +kernel
theorem dX5_nearest_45 : decode cX5_nearest 45 = .ok (.aload_n 0, 1) := by decide +kernel
theorem dX5_nearest_46 : decode cX5_nearest 46 = .ok (.getfield 20, 3) := by decide +kernel
theorem dX5_nearest_49 : decode cX5_nearest 49 = .ok (.iload_n 3, 1) := by decide +kernel
theorem dX5_nearest_50 : decode cX5_nearest 50 = .ok (.iaload, 1) := by decide +kernel
theorem dX5_nearest_51 : decode cX5_nearest 51 = .ok (.isub, 1) := by decide +kernel
theorem dX5_nearest_52 : decode cX5_nearest 52 = .ok (.istore 4, 2) := by decide +kernel
theorem dX5_nearest_54 : decode cX5_nearest 54 = .ok (.iload_n 1, 1) := by decide +kernel
theorem dX5_nearest_55 : decode cX5_nearest 55 = .ok (.ifCond .lt 30, 3) := by decide +kernel
theorem dX5_nearest_58 : decode cX5_nearest 58 = .ok (.iload 4, 2) := by decide +kernel
theorem dX5_nearest_60 : decode cX5_nearest 60 = .ok (.iload_n 2, 1) := by decide +kernel
theorem dX5_nearest_61 : decode cX5_nearest 61 = .ok (.if_icmp .lt 24, 3) := by decide +kernel
theorem dX5_nearest_64 : decode cX5_nearest 64 = .ok (.iload 4, 2) := by decide +kernel
theorem dX5_nearest_66 : decode cX5_nearest 66 = .ok (.iload_n 2, 1) := by decide +kernel
theorem dX5_nearest_67 : decode cX5_nearest 67 = .ok (.if_icmp .ne 23, 3) := by decide +kernel
theorem dX5_nearest_70 : decode cX5_nearest 70 = .ok (.aload_n 0, 1) := by decide +kernel
theorem dX5_nearest_71 : decode cX5_nearest 71 = .ok (.getfield 20, 3) := by decide +kernel
theorem dX5_nearest_74 : decode cX5_nearest 74 = .ok (.iload_n 3, 1) := by decide +kernel
theorem dX5_nearest_75 : decode cX5_nearest 75 = .ok (.iaload, 1) := by decide +kernel
theorem dX5_nearest_76 : decode cX5_nearest 76 = .ok (.aload_n 0, 1) := by decide +kernel
theorem dX5_nearest_77 : decode cX5_nearest 77 = .ok (.getfield 20, 3) := by decide +kernel
theorem dX5_nearest_80 : decode cX5_nearest 80 = .ok (.iload_n 1, 1) := by decide +kernel
theorem dX5_nearest_81 : decode cX5_nearest 81 = .ok (.iaload, 1) := by decide +kernel
theorem dX5_nearest_82 : decode cX5_nearest 82 = .ok (.if_icmp .ge 8, 3) := by decide +kernel
theorem dX5_nearest_85 : decode cX5_nearest 85 = .ok (.iload_n 3, 1) := by decide +kernel
theorem dX5_nearest_86 : decode cX5_nearest 86 = .ok (.istore_n 1, 1) := by decide +kernel
theorem dX5_nearest_87 : decode cX5_nearest 87 = .ok (.iload 4, 2) := by decide +kernel
theorem dX5_nearest_89 : decode cX5_nearest 89 = .ok (.istore_n 2, 1) := by decide +kernel
theorem dX5_nearest_90 : decode cX5_nearest 90 = .ok (.iinc 3 1, 3) := by decide +kernel
theorem dX5_nearest_93 : decode cX5_nearest 93 = .ok (.goto (-87), 3) := by decide +kernel
theorem dX5_nearest_96 : decode cX5_nearest 96 = .ok (.iload_n 1, 1) := by decide +kernel
theorem dX5_nearest_97 : decode cX5_nearest 97 = .ok (.ireturn, 1) := by decide +kernel
theorem dX5_tick_0 : decode cX5_tick 0 = .ok (.aload_n 0, 1) := by decide +kernel
theorem dX5_tick_1 : decode cX5_tick 1 = .ok (.dup, 1) := by decide +kernel
theorem dX5_tick_2 : decode cX5_tick 2 = .ok (.getfield 120, 3) := by decide +kernel
theorem dX5_tick_5 : decode cX5_tick 5 = .ok (.iconst 1, 1) := by decide +kernel
theorem dX5_tick_6 : decode cX5_tick 6 = .ok (.iadd, 1) := by decide +kernel
theorem dX5_tick_7 : decode cX5_tick 7 = .ok (.putfield 120, 3) := by decide +kernel
theorem dX5_tick_10 : decode cX5_tick 10 = .ok (.iconst 0, 1) := by decide +kernel
theorem dX5_tick_11 : decode cX5_tick 11 = .ok (.istore_n 1, 1) := by decide +kernel
theorem dX5_tick_12 : decode cX5_tick 12 = .ok (.iload_n 1, 1) := by decide +kernel
theorem dX5_tick_13 : decode cX5_tick 13 = .ok (.aload_n 0, 1) := by decide +kernel
theorem dX5_tick_14 : decode cX5_tick 14 = .ok (.getfield 105, 3) := by decide +kernel
theorem dX5_tick_17 : decode cX5_tick 17 = .ok (.if_icmp .ge 79, 3) := by decide +kernel
theorem dX5_tick_20 : decode cX5_tick 20 = .ok (.aload_n 0, 1) := by decide +kernel
theorem dX5_tick_21 : decode cX5_tick 21 = .ok (.getfield 59, 3) := by decide +kernel
theorem dX5_tick_24 : decode cX5_tick 24 = .ok (.ifCond .lt 26, 3) := by decide +kernel
theorem dX5_tick_27 : decode cX5_tick 27 = .ok (.aload_n 0, 1) := by decide +kernel
theorem dX5_tick_28 : decode cX5_tick 28 = .ok (.getfield 59, 3) := by decide +kernel
theorem dX5_tick_31 : decode cX5_tick 31 = .ok (.istore_n 2, 1) := by decide +kernel
theorem dX5_tick_32 : decode cX5_tick 32 = .ok (.aload_n 0, 1) := by decide +kernel
theorem dX5_tick_33 : decode cX5_tick 33 = .ok (.iconst (-1), 1) := by decide +kernel
theorem dX5_tick_34 : decode cX5_tick 34 = .ok (.putfield 59, 3) := by decide +kernel
theorem dX5_tick_37 : decode cX5_tick 37 = .ok (.aload_n 0, 1) := by decide +kernel
theorem dX5_tick_38 : decode cX5_tick 38 = .ok (.iload_n 2, 1) := by decide +kernel
theorem dX5_tick_39 : decode cX5_tick 39 = .ok (.aload_n 0, 1) := by decide +kernel
theorem dX5_tick_40 : decode cX5_tick 40 = .ok (.getfield 167, 3) := by decide +kernel
theorem dX5_tick_43 : decode cX5_tick 43 = .ok (.iconst 0, 1) := by decide +kernel
theorem dX5_tick_44 : decode cX5_tick 44 = .ok (.invokevirtual 170, 3) := by decide +kernel
theorem dX5_tick_47 : decode cX5_tick 47 = .ok (.goto 43, 3) := by decide +kernel
theorem dX5_tick_50 : decode cX5_tick 50 = .ok (.aload_n 0, 1) := by decide +kernel
theorem dX5_tick_51 : decode cX5_tick 51 = .ok (.getfield 114, 3) := by decide +kernel
theorem dX5_tick_54 : decode cX5_tick 54 = .ok (.ifCond .le 36, 3) := by decide +kernel
theorem dX5_tick_57 : decode cX5_tick 57 = .ok (.aload_n 0, 1) := by decide +kernel
theorem dX5_tick_58 : decode cX5_tick 58 = .ok (.invokevirtual 174, 3) := by decide +kernel
theorem dX5_tick_61 : decode cX5_tick 61 = .ok (.istore_n 2, 1) := by decide +kernel
theorem dX5_tick_62 : decode cX5_tick 62 = .ok (.aload_n 0, 1) := by decide +kernel
theorem dX5_tick_63 : decode cX5_tick 63 = .ok (.getfield 20, 3) := by decide +kernel
theorem dX5_tick_66 : decode cX5_tick 66 = .ok (.iload_n 2, 1) := by decide +kernel
theorem dX5_tick_67 : decode cX5_tick 67 = .ok (.iaload, 1) := by decide +kernel
theorem dX5_tick_68 : decode cX5_tick 68 = .ok (.istore_n 3, 1) := by decide +kernel
theorem dX5_tick_69 : decode cX5_tick 69 = .ok (.aload_n 0, 1) := by decide +kernel
theorem dX5_tick_70 : decode cX5_tick 70 = .ok (.getfield 23, 3) := by decide +kernel
theorem dX5_tick_73 : decode cX5_tick 73 = .ok (.iload_n 2, 1) := by decide +kernel
theorem dX5_tick_74 : decode cX5_tick 74 = .ok (.iaload, 1) := by decide +kernel
theorem dX5_tick_75 : decode cX5_tick 75 = .ok (.istore 4, 2) := by decide +kernel
theorem dX5_tick_77 : decode cX5_tick 77 = .ok (.aload_n 0, 1) := by decide +kernel
theorem dX5_tick_78 : decode cX5_tick 78 = .ok (.iload_n 2, 1) := by decide +kernel
theorem dX5_tick_79 : decode cX5_tick 79 = .ok (.invokevirtual 178, 3) := by decide +kernel
theorem dX5_tick_82 : decode cX5_tick 82 = .ok (.aload_n 0, 1) := by decide +kernel
theorem dX5_tick_83 : decode cX5_tick 83 = .ok (.iload_n 3, 1) := by decide +kernel
theorem dX5_tick_84 : decode cX5_tick 84 = .ok (.iload 4, 2) := by decide +kernel
theorem dX5_tick_86 : decode cX5_tick 86 = .ok (.iconst 1, 1) := by decide +kernel
theorem dX5_tick_87 : decode cX5_tick 87 = .ok (.invokevirtual 170, 3) := by decide +kernel
theorem dX5_tick_90 : decode cX5_tick 90 = .ok (.iinc 1 1, 3) := by decide +kernel
theorem dX5_tick_93 : decode cX5_tick 93 = .ok (.goto (-81), 3) := by decide +kernel
theorem dX5_tick_96 : decode cX5_tick 96 = .ok (.return_, 1) := by decide +kernel
theorem dX5_wish_0 : decode cX5_wish 0 = .ok (.iload_n 2, 1) := by decide +kernel
theorem dX5_wish_1 : decode cX5_wish 1 = .ok (.invokestatic 145, 3) := by decide +kernel
theorem dX5_wish_4 : decode cX5_wish 4 = .ok (.ifCond .eq 58, 3) := by decide +kernel
theorem dX5_wish_7 : decode cX5_wish 7 = .ok (.aload_n 0, 1) := by decide +kernel
theorem dX5_wish_8 : decode cX5_wish 8 = .ok (.iload_n 2, 1) := by decide +kernel
theorem dX5_wish_9 : decode cX5_wish 9 = .ok (.invokevirtual 181, 3) := by decide +kernel
theorem dX5_wish_12 : decode cX5_wish 12 = .ok (.ifCond .ge 50, 3) := by decide +kernel
theorem dX5_wish_15 : decode cX5_wish 15 = .ok (.aload_n 0, 1) := by decide +kernel
theorem dX5_wish_16 : decode cX5_wish 16 = .ok (.iload_n 2, 1) := by decide +kernel
theorem dX5_wish_17 : decode cX5_wish 17 = .ok (.invokevirtual 184, 3) := by decide +kernel
theorem dX5_wish_20 : decode cX5_wish 20 = .ok (.ifCond .ge 42, 3) := by decide +kernel
theorem dX5_wish_23 : decode cX5_wish 23 = .ok (.aload_n 0, 1) := by decide +kernel
theorem dX5_wish_24 : decode cX5_wish 24 = .ok (.getfield 114, 3) := by decide +kernel
theorem dX5_wish_27 : decode cX5_wish 27 = .ok (.bipush 16, 2) := by decide +kernel
theorem dX5_wish_29 : decode cX5_wish 29 = .ok (.if_icmp .ge 33, 3) := by decide +kernel
theorem dX5_wish_32 : decode cX5_wish 32 = .ok (.aload_n 0, 1) := by decide +kernel
theorem dX5_wish_33 : decode cX5_wish 33 = .ok (.getfield 20, 3) := by decide +kernel
theorem dX5_wish_36 : decode cX5_wish 36 = .ok (.aload_n 0, 1) := by decide +kernel
theorem dX5_wish_37 : decode cX5_wish 37 = .ok (.getfield 114, 3) := by decide +kernel
theorem dX5_wish_40 : decode cX5_wish 40 = .ok (.iload_n 2, 1) := by decide +kernel
theorem dX5_wish_41 : decode cX5_wish 41 = .ok (.iastore, 1) := by decide +kernel
theorem dX5_wish_42 : decode cX5_wish 42 = .ok (.aload_n 0, 1) := by decide +kernel
theorem dX5_wish_43 : decode cX5_wish 43 = .ok (.getfield 23, 3) := by decide +kernel
theorem dX5_wish_46 : decode cX5_wish 46 = .ok (.aload_n 0, 1) := by decide +kernel
theorem dX5_wish_47 : decode cX5_wish 47 = .ok (.getfield 114, 3) := by decide +kernel
theorem dX5_wish_50 : decode cX5_wish 50 = .ok (.iload_n 1, 1) := by decide +kernel
theorem dX5_wish_51 : decode cX5_wish 51 = .ok (.iastore, 1) := by decide +kernel
theorem dX5_wish_52 : decode cX5_wish 52 = .ok (.aload_n 0, 1) := by decide +kernel
theorem dX5_wish_53 : decode cX5_wish 53 = .ok (.dup, 1) := by decide +kernel
theorem dX5_wish_54 : decode cX5_wish 54 = .ok (.getfield 114, 3) := by decide +kernel
theorem dX5_wish_57 : decode cX5_wish 57 = .ok (.iconst 1, 1) := by decide +kernel
theorem dX5_wish_58 : decode cX5_wish 58 = .ok (.iadd, 1) := by decide +kernel
theorem dX5_wish_59 : decode cX5_wish 59 = .ok (.putfield 114, 3) := by decide +kernel
theorem dX5_wish_62 : decode cX5_wish 62 = .ok (.return_, 1) := by decide +kernel
theorem dX5_wishAll_0 : decode cX5_wishAll 0 = .ok (.aload_n 0, 1) := by decide +kernel
theorem dX5_wishAll_1 : decode cX5_wishAll 1 = .ok (.iload_n 1, 1) := by decide +kernel
theorem dX5_wishAll_2 : decode cX5_wishAll 2 = .ok (.invokevirtual 187, 3) := by decide +kernel
theorem dX5_wishAll_5 : decode cX5_wishAll 5 = .ok (.istore 5, 2) := by decide +kernel
theorem dX5_wishAll_7 : decode cX5_wishAll 7 = .ok (.iload_n 2, 1) := by decide +kernel
theorem dX5_wishAll_8 : decode cX5_wishAll 8 = .ok (.istore 6, 2) := by decide +kernel
theorem dX5_wishAll_10 : decode cX5_wishAll 10 = .ok (.iconst 1, 1) := by decide +kernel
theorem dX5_wishAll_11 : decode cX5_wishAll 11 = .ok (.istore 7, 2) := by decide +kernel
theorem dX5_wishAll_13 : decode cX5_wishAll 13 = .ok (.iload 7, 2) := by decide +kernel
theorem dX5_wishAll_15 : decode cX5_wishAll 15 = .ok (.iload 5, 2) := by decide +kernel
theorem dX5_wishAll_17 : decode cX5_wishAll 17 = .ok (.if_icmp .gt 169, 3) := by decide +kernel
theorem dX5_wishAll_20 : decode cX5_wishAll 20 = .ok (.aload_n 0, 1) := by decide +kernel
theorem dX5_wishAll_21 : decode cX5_wishAll 21 = .ok (.getfield 26, 3) := by decide +kernel
theorem dX5_wishAll_24 : decode cX5_wishAll 24 = .ok (.iload_n 1, 1) := by decide +kernel
theorem dX5_wishAll_25 : decode cX5_wishAll 25 = .ok (.iaload, 1) := by decide +kernel
theorem dX5_wishAll_26 : decode cX5_wishAll 26 = .ok (.tableswitch 154 1 5 #[34, 46, 65, 98, 34], 34) := by decide +kernel
theorem dX5_wishAll_60 : decode cX5_wishAll 60 = .ok (.aload_n 0, 1) := by decide +kernel
theorem dX5_wishAll_61 : decode cX5_wishAll 61 = .ok (.iload_n 1, 1) := by decide +kernel
theorem dX5_wishAll_62 : decode cX5_wishAll 62 = .ok (.iload_n 2, 1) := by decide +kernel
theorem dX5_wishAll_63 : decode cX5_wishAll 63 = .ok (.iload 7, 2) := by decide +kernel
theorem dX5_wishAll_65 : decode cX5_wishAll 65 = .ok (.iadd, 1) := by decide +kernel
theorem dX5_wishAll_66 : decode cX5_wishAll 66 = .ok (.invokevirtual 190, 3) := by decide +kernel
theorem dX5_wishAll_69 : decode cX5_wishAll 69 = .ok (.goto 111, 3) := by decide +kernel
theorem dX5_wishAll_72 : decode cX5_wishAll 72 = .ok (.iload 4, 2) := by decide +kernel
theorem dX5_wishAll_74 : decode cX5_wishAll 74 = .ok (.ifCond .eq 106, 3) := by decide +kernel
theorem dX5_wishAll_77 : decode cX5_wishAll 77 = .ok (.aload_n 0, 1) := by decide +kernel
theorem dX5_wishAll_78 : decode cX5_wishAll 78 = .ok (.iload_n 1, 1) := by decide +kernel
theorem dX5_wishAll_79 : decode cX5_wishAll 79 = .ok (.iload_n 2, 1) := by decide +kernel
theorem dX5_wishAll_80 : decode cX5_wishAll 80 = .ok (.iload 7, 2) := by decide +kernel
theorem dX5_wishAll_82 : decode cX5_wishAll 82 = .ok (.iload_n 3, 1) := by decide +kernel
theorem dX5_wishAll_83 : decode cX5_wishAll 83 = .ok (.imul, 1) := by decide +kernel
theorem dX5_wishAll_84 : decode cX5_wishAll 84 = .ok (.iadd, 1) := by decide +kernel
theorem dX5_wishAll_85 : decode cX5_wishAll 85 = .ok (.invokevirtual 190, 3) := by decide +kernel
theorem dX5_wishAll_88 : decode cX5_wishAll 88 = .ok (.goto 92, 3) := by decide +kernel
theorem dX5_wishAll_91 : decode cX5_wishAll 91 = .ok (.iload 6, 2) := by decide +kernel
theorem dX5_wishAll_93 : decode cX5_wishAll 93 = .ok (.ifCond .ge 7, 3) := by decide +kernel
theorem dX5_wishAll_96 : decode cX5_wishAll 96 = .ok (.iconst (-1), 1) := by decide +kernel
theorem dX5_wishAll_97 : decode cX5_wishAll 97 = .ok (.goto 15, 3) := by decide +kernel
theorem dX5_wishAll_100 : decode cX5_wishAll 100 = .ok (.aload_n 0, 1) := by decide +kernel
theorem dX5_wishAll_101 : decode cX5_wishAll 101 = .ok (.getfield 50, 3) := by decide +kernel
theorem dX5_wishAll_104 : decode cX5_wishAll 104 = .ok (.bipush 64, 2) := by decide +kernel
theorem dX5_wishAll_106 : decode cX5_wishAll 106 = .ok (.iload_n 1, 1) := by decide +kernel
theorem dX5_wishAll_107 : decode cX5_wishAll 107 = .ok (.imul, 1) := by decide +kernel
theorem dX5_wishAll_108 : decode cX5_wishAll 108 = .ok (.iload 6, 2) := by decide +kernel
theorem dX5_wishAll_110 : decode cX5_wishAll 110 = .ok (.iadd, 1) := by decide +kernel
theorem dX5_wishAll_111 : decode cX5_wishAll 111 = .ok (.iaload, 1) := by decide +kernel
theorem dX5_wishAll_112 : decode cX5_wishAll 112 = .ok (.istore 6, 2) := by decide +kernel
theorem dX5_wishAll_114 : decode cX5_wishAll 114 = .ok (.aload_n 0, 1) := by decide +kernel
theorem dX5_wishAll_115 : decode cX5_wishAll 115 = .ok (.iload_n 1, 1) := by decide +kernel
theorem dX5_wishAll_116 : decode cX5_wishAll 116 = .ok (.iload 6, 2) := by decide +kernel
theorem dX5_wishAll_118 : decode cX5_wishAll 118 = .ok (.invokevirtual 190, 3) := by decide +kernel
theorem dX5_wishAll_121 : decode cX5_wishAll 121 = .ok (.goto 59, 3) := by decide +kernel
theorem dX5_wishAll_124 : decode cX5_wishAll 124 = .ok (.aload_n 0, 1) := by decide +kernel
theorem dX5_wishAll_125 : decode cX5_wishAll 125 = .ok (.getfield 38, 3) := by decide +kernel
theorem dX5_wishAll_128 : decode cX5_wishAll 128 = .ok (.iload_n 1, 1) := by decide +kernel
theorem dX5_wishAll_129 : decode cX5_wishAll 129 = .ok (.iaload, 1) := by decide +kernel
theorem dX5_wishAll_130 : decode cX5_wishAll 130 = .ok (.ifCond .lt 50, 3) := by decide +kernel
theorem dX5_wishAll_133 : decode cX5_wishAll 133 = .ok (.iload_n 2, 1) := by decide +kernel
theorem dX5_wishAll_134 : decode cX5_wishAll 134 = .ok (.i2l, 1) := by decide +kernel
theorem dX5_wishAll_135 : decode cX5_wishAll 135 = .ok (.aload_n 0, 1) := by decide +kernel
theorem dX5_wishAll_136 : decode cX5_wishAll 136 = .ok (.getfield 38, 3) := by decide +kernel
theorem dX5_wishAll_139 : decode cX5_wishAll 139 = .ok (.iload_n 1, 1) := by decide +kernel
theorem dX5_wishAll_140 : decode cX5_wishAll 140 = .ok (.iaload, 1) := by decide +kernel
theorem dX5_wishAll_141 : decode cX5_wishAll 141 = .ok (.i2l, 1) := by decide +kernel
theorem dX5_wishAll_142 : decode cX5_wishAll 142 = .ok (.aload_n 0, 1) := by decide +kernel
theorem dX5_wishAll_143 : decode cX5_wishAll 143 = .ok (.getfield 41, 3) := by decide +kernel
theorem dX5_wishAll_146 : decode cX5_wishAll 146 = .ok (.iload_n 1, 1) := by decide +kernel
theorem dX5_wishAll_147 : decode cX5_wishAll 147 = .ok (.iaload, 1) := by decide +kernel
theorem dX5_wishAll_148 : decode cX5_wishAll 148 = .ok (.i2l, 1) := by decide +kernel
theorem dX5_wishAll_149 : decode cX5_wishAll 149 = .ok (.invokestatic 96, 3) := by decide +kernel
theorem dX5_wishAll_152 : decode cX5_wishAll 152 = .ok (.ifCond .eq 28, 3) := by decide +kernel
theorem dX5_wishAll_155 : decode cX5_wishAll 155 = .ok (.iload_n 2, 1) := by decide +kernel
theorem dX5_wishAll_156 : decode cX5_wishAll 156 = .ok (.iload 7, 2) := by decide +kernel
theorem dX5_wishAll_158 : decode cX5_wishAll 158 = .ok (.iadd, 1) := by decide +kernel
theorem dX5_wishAll_159 : decode cX5_wishAll 159 = .ok (.aload_n 0, 1) := by decide +kernel
theorem dX5_wishAll_160 : decode cX5_wishAll 160 = .ok (.getfield 41, 3) := by decide +kernel
theorem dX5_wishAll_163 : decode cX5_wishAll 163 = .ok (.iload_n 1, 1) := by decide +kernel
theorem dX5_wishAll_164 : decode cX5_wishAll 164 = .ok (.iaload, 1) := by decide +kernel
theorem dX5_wishAll_165 : decode cX5_wishAll 165 = .ok (.if_icmp .gt 15, 3) := by decide +kernel
theorem dX5_wishAll_168 : decode cX5_wishAll 168 = .ok (.aload_n 0, 1) := by decide +kernel
theorem dX5_wishAll_169 : decode cX5_wishAll 169 = .ok (.iload_n 1, 1) := by decide +kernel
theorem dX5_wishAll_170 : decode cX5_wishAll 170 = .ok (.iload_n 2, 1) := by decide +kernel
theorem dX5_wishAll_171 : decode cX5_wishAll 171 = .ok (.iload 7, 2) := by decide +kernel
theorem dX5_wishAll_173 : decode cX5_wishAll 173 = .ok (.iadd, 1) := by decide +kernel
theorem dX5_wishAll_174 : decode cX5_wishAll 174 = .ok (.invokevirtual 190, 3) := by decide +kernel
theorem dX5_wishAll_177 : decode cX5_wishAll 177 = .ok (.goto 3, 3) := by decide +kernel
theorem dX5_wishAll_180 : decode cX5_wishAll 180 = .ok (.iinc 7 1, 3) := by decide +kernel
theorem dX5_wishAll_183 : decode cX5_wishAll 183 = .ok (.goto (-170), 3) := by decide +kernel
theorem dX5_wishAll_186 : decode cX5_wishAll 186 = .ok (.return_, 1) := by decide +kernel
theorem dX5_hit_0 : decode cX5_hit 0 = .ok (.aload_n 0, 1) := by decide +kernel
theorem dX5_hit_1 : decode cX5_hit 1 = .ok (.getfield 53, 3) := by decide +kernel
theorem dX5_hit_4 : decode cX5_hit 4 = .ok (.bipush 7, 2) := by decide +kernel
theorem dX5_hit_6 : decode cX5_hit 6 = .ok (.iload_n 1, 1) := by decide +kernel
theorem dX5_hit_7 : decode cX5_hit 7 = .ok (.imul, 1) := by decide +kernel
theorem dX5_hit_8 : decode cX5_hit 8 = .ok (.iconst 1, 1) := by decide +kernel
theorem dX5_hit_9 : decode cX5_hit 9 = .ok (.iadd, 1) := by decide +kernel
theorem dX5_hit_10 : decode cX5_hit 10 = .ok (.dup2, 1) := by decide +kernel
theorem dX5_hit_11 : decode cX5_hit 11 = .ok (.iaload, 1) := by decide +kernel
theorem dX5_hit_12 : decode cX5_hit 12 = .ok (.iconst 1, 1) := by decide +kernel
theorem dX5_hit_13 : decode cX5_hit 13 = .ok (.iadd, 1) := by decide +kernel
theorem dX5_hit_14 : decode cX5_hit 14 = .ok (.iastore, 1) := by decide +kernel
theorem dX5_hit_15 : decode cX5_hit 15 = .ok (.aload_n 0, 1) := by decide +kernel
theorem dX5_hit_16 : decode cX5_hit 16 = .ok (.getfield 7, 3) := by decide +kernel
theorem dX5_hit_19 : decode cX5_hit 19 = .ok (.iload_n 2, 1) := by decide +kernel
theorem dX5_hit_20 : decode cX5_hit 20 = .ok (.iaload, 1) := by decide +kernel
theorem dX5_hit_21 : decode cX5_hit 21 = .ok (.istore_n 3, 1) := by decide +kernel
theorem dX5_hit_22 : decode cX5_hit 22 = .ok (.aload_n 0, 1) := by decide +kernel
theorem dX5_hit_23 : decode cX5_hit 23 = .ok (.getfield 13, 3) := by decide +kernel
theorem dX5_hit_26 : decode cX5_hit 26 = .ok (.iload_n 2, 1) := by decide +kernel
theorem dX5_hit_27 : decode cX5_hit 27 = .ok (.iaload, 1) := by decide +kernel
theorem dX5_hit_28 : decode cX5_hit 28 = .ok (.istore 4, 2) := by decide +kernel
theorem dX5_hit_30 : decode cX5_hit 30 = .ok (.aload_n 0, 1) := by decide +kernel
theorem dX5_hit_31 : decode cX5_hit 31 = .ok (.getfield 16, 3) := by decide +kernel
theorem dX5_hit_34 : decode cX5_hit 34 = .ok (.iload_n 2, 1) := by decide +kernel
theorem dX5_hit_35 : decode cX5_hit 35 = .ok (.baload, 1) := by decide +kernel
theorem dX5_hit_36 : decode cX5_hit 36 = .ok (.ifCond .eq 57, 3) := by decide +kernel
theorem dX5_hit_39 : decode cX5_hit 39 = .ok (.aload_n 0, 1) := by decide +kernel
theorem dX5_hit_40 : decode cX5_hit 40 = .ok (.getfield 53, 3) := by decide +kernel
theorem dX5_hit_43 : decode cX5_hit 43 = .ok (.bipush 7, 2) := by decide +kernel
theorem dX5_hit_45 : decode cX5_hit 45 = .ok (.iload 4, 2) := by decide +kernel
theorem dX5_hit_47 : decode cX5_hit 47 = .ok (.imul, 1) := by decide +kernel
theorem dX5_hit_48 : decode cX5_hit 48 = .ok (.iconst 5, 1) := by decide +kernel
theorem dX5_hit_49 : decode cX5_hit 49 = .ok (.iadd, 1) := by decide +kernel
theorem dX5_hit_50 : decode cX5_hit 50 = .ok (.dup2, 1) := by decide +kernel
theorem dX5_hit_51 : decode cX5_hit 51 = .ok (.iaload, 1) := by decide +kernel
theorem dX5_hit_52 : decode cX5_hit 52 = .ok (.iconst 1, 1) := by decide +kernel
theorem dX5_hit_53 : decode cX5_hit 53 = .ok (.iadd, 1) := by decide +kernel
theorem dX5_hit_54 : decode cX5_hit 54 = .ok (.iastore, 1) := by decide +kernel
theorem dX5_hit_55 : decode cX5_hit 55 = .ok (.aload_n 0, 1) := by decide +kernel
theorem dX5_hit_56 : decode cX5_hit 56 = .ok (.getfield 32, 3) := by decide +kernel
theorem dX5_hit_59 : decode cX5_hit 59 = .ok (.iload 4, 2) := by decide +kernel
theorem dX5_hit_61 : decode cX5_hit 61 = .ok (.dup2, 1) := by decide +kernel
theorem dX5_hit_62 : decode cX5_hit 62 = .ok (.iaload, 1) := by decide +kernel
theorem dX5_hit_63 : decode cX5_hit 63 = .ok (.aload_n 0, 1) := by decide +kernel
theorem dX5_hit_64 : decode cX5_hit 64 = .ok (.getfield 26, 3) := by decide +kernel
theorem dX5_hit_67 : decode cX5_hit 67 = .ok (.iload 4, 2) := by decide +kernel
theorem dX5_hit_69 : decode cX5_hit 69 = .ok (.iaload, 1) := by decide +kernel
theorem dX5_hit_70 : decode cX5_hit 70 = .ok (.iconst 5, 1) := by decide +kernel
theorem dX5_hit_71 : decode cX5_hit 71 = .ok (.if_icmp .ne 19, 3) := by decide +kernel
theorem dX5_hit_74 : decode cX5_hit 74 = .ok (.aload_n 0, 1) := by decide +kernel
theorem dX5_hit_75 : decode cX5_hit 75 = .ok (.getfield 32, 3) := by decide +kernel
theorem dX5_hit_78 : decode cX5_hit 78 = .ok (.iload 4, 2) := by decide +kernel
theorem dX5_hit_80 : decode cX5_hit 80 = .ok (.iaload, 1) := by decide +kernel
theorem dX5_hit_81 : decode cX5_hit 81 = .ok (.bipush 8, 2) := by decide +kernel
theorem dX5_hit_83 : decode cX5_hit 83 = .ok (.if_icmp .ge 7, 3) := by decide +kernel
theorem dX5_hit_86 : decode cX5_hit 86 = .ok (.iconst 1, 1) := by decide +kernel
theorem dX5_hit_87 : decode cX5_hit 87 = .ok (.goto 4, 3) := by decide +kernel
theorem dX5_hit_90 : decode cX5_hit 90 = .ok (.iconst 0, 1) := by decide +kernel
theorem dX5_hit_91 : decode cX5_hit 91 = .ok (.iadd, 1) := by decide +kernel
theorem dX5_hit_92 : decode cX5_hit 92 = .ok (.iastore, 1) := by decide +kernel
theorem dX5_hit_93 : decode cX5_hit 93 = .ok (.aload_n 0, 1) := by decide +kernel
theorem dX5_hit_94 : decode cX5_hit 94 = .ok (.iload_n 2, 1) := by decide +kernel
theorem dX5_hit_95 : decode cX5_hit 95 = .ok (.invokevirtual 158, 3) := by decide +kernel
theorem dX5_hit_98 : decode cX5_hit 98 = .ok (.aload_n 0, 1) := by decide +kernel
theorem dX5_hit_99 : decode cX5_hit 99 = .ok (.getfield 7, 3) := by decide +kernel
theorem dX5_hit_102 : decode cX5_hit 102 = .ok (.aload_n 0, 1) := by decide +kernel
theorem dX5_hit_103 : decode cX5_hit 103 = .ok (.getfield 111, 3) := by decide +kernel
theorem dX5_hit_106 : decode cX5_hit 106 = .ok (.iload_n 3, 1) := by decide +kernel
theorem dX5_hit_107 : decode cX5_hit 107 = .ok (.iastore, 1) := by decide +kernel
theorem dX5_hit_108 : decode cX5_hit 108 = .ok (.aload_n 0, 1) := by decide +kernel
theorem dX5_hit_109 : decode cX5_hit 109 = .ok (.getfield 13, 3) := by decide +kernel
theorem dX5_hit_112 : decode cX5_hit 112 = .ok (.aload_n 0, 1) := by decide +kernel
theorem dX5_hit_113 : decode cX5_hit 113 = .ok (.getfield 111, 3) := by decide +kernel
theorem dX5_hit_116 : decode cX5_hit 116 = .ok (.iload 4, 2) := by decide +kernel
theorem dX5_hit_118 : decode cX5_hit 118 = .ok (.iastore, 1) := by decide +kernel
theorem dX5_hit_119 : decode cX5_hit 119 = .ok (.aload_n 0, 1) := by decide +kernel
theorem dX5_hit_120 : decode cX5_hit 120 = .ok (.getfield 16, 3) := by decide +kernel
theorem dX5_hit_123 : decode cX5_hit 123 = .ok (.aload_n 0, 1) := by decide +kernel
theorem dX5_hit_124 : decode cX5_hit 124 = .ok (.getfield 111, 3) := by decide +kernel
theorem dX5_hit_127 : decode cX5_hit 127 = .ok (.iconst 0, 1) := by decide +kernel
theorem dX5_hit_128 : decode cX5_hit 128 = .ok (.bastore, 1) := by decide +kernel
theorem dX5_hit_129 : decode cX5_hit 129 = .ok (.aload_n 0, 1) := by decide +kernel
theorem dX5_hit_130 : decode cX5_hit 130 = .ok (.dup, 1) := by decide +kernel
theorem dX5_hit_131 : decode cX5_hit 131 = .ok (.getfield 111, 3) := by decide +kernel
theorem dX5_hit_134 : decode cX5_hit 134 = .ok (.iconst 1, 1) := by decide +kernel
theorem dX5_hit_135 : decode cX5_hit 135 = .ok (.iadd, 1) := by decide +kernel
theorem dX5_hit_136 : decode cX5_hit 136 = .ok (.putfield 111, 3) := by decide +kernel
theorem dX5_hit_139 : decode cX5_hit 139 = .ok (.return_, 1) := by decide +kernel
theorem dX5_ask_0 : decode cX5_ask 0 = .ok (.iload_n 1, 1) := by decide +kernel
theorem dX5_ask_1 : decode cX5_ask 1 = .ok (.invokestatic 137, 3) := by decide +kernel
theorem dX5_ask_4 : decode cX5_ask 4 = .ok (.ifCond .ne 6, 3) := by decide +kernel
theorem dX5_ask_7 : decode cX5_ask 7 = .ok (.bipush (-101), 2) := by decide +kernel
theorem dX5_ask_9 : decode cX5_ask 9 = .ok (.ireturn, 1) := by decide +kernel
theorem dX5_ask_10 : decode cX5_ask 10 = .ok (.iload_n 2, 1) := by decide +kernel
theorem dX5_ask_11 : decode cX5_ask 11 = .ok (.invokestatic 145, 3) := by decide +kernel
theorem dX5_ask_14 : decode cX5_ask 14 = .ok (.ifCond .ne 6, 3) := by decide +kernel
theorem dX5_ask_17 : decode cX5_ask 17 = .ok (.bipush (-102), 2) := by decide +kernel
theorem dX5_ask_19 : decode cX5_ask 19 = .ok (.ireturn, 1) := by decide +kernel
theorem dX5_ask_20 : decode cX5_ask 20 = .ok (.aload_n 0, 1) := by decide +kernel
theorem dX5_ask_21 : decode cX5_ask 21 = .ok (.getfield 53, 3) := by decide +kernel
theorem dX5_ask_24 : decode cX5_ask 24 = .ok (.bipush 7, 2) := by decide +kernel
theorem dX5_ask_26 : decode cX5_ask 26 = .ok (.iload_n 1, 1) := by decide +kernel
theorem dX5_ask_27 : decode cX5_ask 27 = .ok (.imul, 1) := by decide +kernel
theorem dX5_ask_28 : decode cX5_ask 28 = .ok (.dup2, 1) := by decide +kernel
theorem dX5_ask_29 : decode cX5_ask 29 = .ok (.iaload, 1) := by decide +kernel
theorem dX5_ask_30 : decode cX5_ask 30 = .ok (.iconst 1, 1) := by decide +kernel
theorem dX5_ask_31 : decode cX5_ask 31 = .ok (.iadd, 1) := by decide +kernel
theorem dX5_ask_32 : decode cX5_ask 32 = .ok (.iastore, 1) := by decide +kernel
theorem dX5_ask_33 : decode cX5_ask 33 = .ok (.aload_n 0, 1) := by decide +kernel
theorem dX5_ask_34 : decode cX5_ask 34 = .ok (.getfield 56, 3) := by decide +kernel
theorem dX5_ask_37 : decode cX5_ask 37 = .ok (.aload_n 0, 1) := by decide +kernel
theorem dX5_ask_38 : decode cX5_ask 38 = .ok (.getfield 126, 3) := by decide +kernel
theorem dX5_ask_41 : decode cX5_ask 41 = .ok (.sipush 200, 3) := by decide +kernel
theorem dX5_ask_44 : decode cX5_ask 44 = .ok (.irem, 1) := by decide +kernel
theorem dX5_ask_45 : decode cX5_ask 45 = .ok (.iload_n 2, 1) := by decide +kernel
theorem dX5_ask_46 : decode cX5_ask 46 = .ok (.iastore, 1) := by decide +kernel
theorem dX5_ask_47 : decode cX5_ask 47 = .ok (.aload_n 0, 1) := by decide +kernel
theorem dX5_ask_48 : decode cX5_ask 48 = .ok (.dup, 1) := by decide +kernel
theorem dX5_ask_49 : decode cX5_ask 49 = .ok (.getfield 126, 3) := by decide +kernel
theorem dX5_ask_52 : decode cX5_ask 52 = .ok (.iconst 1, 1) := by decide +kernel
theorem dX5_ask_53 : decode cX5_ask 53 = .ok (.iadd, 1) := by decide +kernel
theorem dX5_ask_54 : decode cX5_ask 54 = .ok (.putfield 126, 3) := by decide +kernel
theorem dX5_ask_57 : decode cX5_ask 57 = .ok (.aload_n 0, 1) := by decide +kernel
theorem dX5_ask_58 : decode cX5_ask 58 = .ok (.iload_n 2, 1) := by decide +kernel
theorem dX5_ask_59 : decode cX5_ask 59 = .ok (.invokevirtual 181, 3) := by decide +kernel
theorem dX5_ask_62 : decode cX5_ask 62 = .ok (.istore_n 3, 1) := by decide +kernel
theorem dX5_ask_63 : decode cX5_ask 63 = .ok (.iload_n 3, 1) := by decide +kernel
theorem dX5_ask_64 : decode cX5_ask 64 = .ok (.ifCond .ge 7, 3) := by decide +kernel
theorem dX5_ask_67 : decode cX5_ask 67 = .ok (.iconst 1, 1) := by decide +kernel
theorem dX5_ask_68 : decode cX5_ask 68 = .ok (.goto 4, 3) := by decide +kernel
theorem dX5_ask_71 : decode cX5_ask 71 = .ok (.iconst 0, 1) := by decide +kernel
theorem dX5_ask_72 : decode cX5_ask 72 = .ok (.istore 4, 2) := by decide +kernel
theorem dX5_ask_74 : decode cX5_ask 74 = .ok (.iload_n 3, 1) := by decide +kernel
theorem dX5_ask_75 : decode cX5_ask 75 = .ok (.ifCond .lt 12, 3) := by decide +kernel
theorem dX5_ask_78 : decode cX5_ask 78 = .ok (.aload_n 0, 1) := by decide +kernel
theorem dX5_ask_79 : decode cX5_ask 79 = .ok (.iload_n 1, 1) := by decide +kernel
theorem dX5_ask_80 : decode cX5_ask 80 = .ok (.iload_n 3, 1) := by decide +kernel
theorem dX5_ask_81 : decode cX5_ask 81 = .ok (.invokevirtual 194, 3) := by decide +kernel
theorem dX5_ask_84 : decode cX5_ask 84 = .ok (.goto 50, 3) := by decide +kernel
theorem dX5_ask_87 : decode cX5_ask 87 = .ok (.aload_n 0, 1) := by decide +kernel
theorem dX5_ask_88 : decode cX5_ask 88 = .ok (.iload_n 2, 1) := by decide +kernel
theorem dX5_ask_89 : decode cX5_ask 89 = .ok (.invokevirtual 184, 3) := by decide +kernel
theorem dX5_ask_92 : decode cX5_ask 92 = .ok (.istore 5, 2) := by decide +kernel
theorem dX5_ask_94 : decode cX5_ask 94 = .ok (.iload 5, 2) := by decide +kernel
theorem dX5_ask_96 : decode cX5_ask 96 = .ok (.ifCond .lt 9, 3) := by decide +kernel
end
section
theorem dX5_ask_99 : decode cX5_ask 99 = .ok (.aload_n 0, 1) := by decide +kernel
theorem dX5_ask_100 : decode cX5_ask 100 = .ok (.iload 5, 2) := by decide +kernel
theorem dX5_ask_102 : decode cX5_ask 102 = .ok (.invokevirtual 178, 3) := by decide +kernel
theorem dX5_ask_105 : decode cX5_ask 105 = .ok (.aload_n 0, 1) := by decide +kernel
theorem dX5_ask_106 : decode cX5_ask 106 = .ok (.getfield 53, 3) := by decide +kernel
theorem dX5_ask_109 : decode cX5_ask 109 = .ok (.bipush 7, 2) := by decide +kernel
theorem dX5_ask_111 : decode cX5_ask 111 = .ok (.iload_n 1, 1) := by decide +kernel
theorem dX5_ask_112 : decode cX5_ask 112 = .ok (.imul, 1) := by decide +kernel
theorem dX5_ask_113 : decode cX5_ask 113 = .ok (.iconst 2, 1) := by decide +kernel
theorem dX5_ask_114 : decode cX5_ask 114 = .ok (.iadd, 1) := by decide +kernel
theorem dX5_ask_115 : decode cX5_ask 115 = .ok (.dup2, 1) := by decide +kernel
theorem dX5_ask_116 : decode cX5_ask 116 = .ok (.iaload, 1) := by decide +kernel
theorem dX5_ask_117 : decode cX5_ask 117 = .ok (.iconst 1, 1) := by decide +kernel
theorem dX5_ask_118 : decode cX5_ask 118 = .ok (.iadd, 1) := by decide +kernel
theorem dX5_ask_119 : decode cX5_ask 119 = .ok (.iastore, 1) := by decide +kernel
theorem dX5_ask_120 : decode cX5_ask 120 = .ok (.aload_n 0, 1) := by decide +kernel
theorem dX5_ask_121 : decode cX5_ask 121 = .ok (.iload_n 2, 1) := by decide +kernel
theorem dX5_ask_122 : decode cX5_ask 122 = .ok (.putfield 59, 3) := by decide +kernel
theorem dX5_ask_125 : decode cX5_ask 125 = .ok (.aload_n 0, 1) := by decide +kernel
theorem dX5_ask_126 : decode cX5_ask 126 = .ok (.iload_n 1, 1) := by decide +kernel
theorem dX5_ask_127 : decode cX5_ask 127 = .ok (.putfield 167, 3) := by decide +kernel
theorem dX5_ask_130 : decode cX5_ask 130 = .ok (.aload_n 0, 1) := by decide +kernel
theorem dX5_ask_131 : decode cX5_ask 131 = .ok (.invokevirtual 197, 3) := by decide +kernel
theorem dX5_ask_134 : decode cX5_ask 134 = .ok (.aload_n 0, 1) := by decide +kernel
theorem dX5_ask_135 : decode cX5_ask 135 = .ok (.getfield 44, 3) := by decide +kernel
theorem dX5_ask_138 : decode cX5_ask 138 = .ok (.iload_n 1, 1) := by decide +kernel
theorem dX5_ask_139 : decode cX5_ask 139 = .ok (.iaload, 1) := by decide +kernel
theorem dX5_ask_140 : decode cX5_ask 140 = .ok (.ifCond .ge 7, 3) := by decide +kernel
theorem dX5_ask_143 : decode cX5_ask 143 = .ok (.iconst 0, 1) := by decide +kernel
theorem dX5_ask_144 : decode cX5_ask 144 = .ok (.goto 11, 3) := by decide +kernel
theorem dX5_ask_147 : decode cX5_ask 147 = .ok (.iload_n 2, 1) := by decide +kernel
theorem dX5_ask_148 : decode cX5_ask 148 = .ok (.aload_n 0, 1) := by decide +kernel
theorem dX5_ask_149 : decode cX5_ask 149 = .ok (.getfield 44, 3) := by decide +kernel
theorem dX5_ask_152 : decode cX5_ask 152 = .ok (.iload_n 1, 1) := by decide +kernel
theorem dX5_ask_153 : decode cX5_ask 153 = .ok (.iaload, 1) := by decide +kernel
theorem dX5_ask_154 : decode cX5_ask 154 = .ok (.isub, 1) := by decide +kernel
theorem dX5_ask_155 : decode cX5_ask 155 = .ok (.istore 5, 2) := by decide +kernel
theorem dX5_ask_157 : decode cX5_ask 157 = .ok (.iload 5, 2) := by decide +kernel
theorem dX5_ask_159 : decode cX5_ask 159 = .ok (.ifCond .eq 18, 3) := by decide +kernel
theorem dX5_ask_162 : decode cX5_ask 162 = .ok (.iload 5, 2) := by decide +kernel
theorem dX5_ask_164 : decode cX5_ask 164 = .ok (.aload_n 0, 1) := by decide +kernel
theorem dX5_ask_165 : decode cX5_ask 165 = .ok (.getfield 47, 3) := by decide +kernel
theorem dX5_ask_168 : decode cX5_ask 168 = .ok (.iload_n 1, 1) := by decide +kernel
theorem dX5_ask_169 : decode cX5_ask 169 = .ok (.iaload, 1) := by decide +kernel
theorem dX5_ask_170 : decode cX5_ask 170 = .ok (.if_icmp .ne 7, 3) := by decide +kernel
theorem dX5_ask_173 : decode cX5_ask 173 = .ok (.iconst 1, 1) := by decide +kernel
theorem dX5_ask_174 : decode cX5_ask 174 = .ok (.goto 4, 3) := by decide +kernel
theorem dX5_ask_177 : decode cX5_ask 177 = .ok (.iconst 0, 1) := by decide +kernel
theorem dX5_ask_178 : decode cX5_ask 178 = .ok (.istore 6, 2) := by decide +kernel
theorem dX5_ask_180 : decode cX5_ask 180 = .ok (.aload_n 0, 1) := by decide +kernel
theorem dX5_ask_181 : decode cX5_ask 181 = .ok (.getfield 44, 3) := by decide +kernel
theorem dX5_ask_184 : decode cX5_ask 184 = .ok (.iload_n 1, 1) := by decide +kernel
theorem dX5_ask_185 : decode cX5_ask 185 = .ok (.iaload, 1) := by decide +kernel
theorem dX5_ask_186 : decode cX5_ask 186 = .ok (.ifCond .lt 20, 3) := by decide +kernel
theorem dX5_ask_189 : decode cX5_ask 189 = .ok (.aload_n 0, 1) := by decide +kernel
theorem dX5_ask_190 : decode cX5_ask 190 = .ok (.getfield 50, 3) := by decide +kernel
theorem dX5_ask_193 : decode cX5_ask 193 = .ok (.bipush 64, 2) := by decide +kernel
theorem dX5_ask_195 : decode cX5_ask 195 = .ok (.iload_n 1, 1) := by decide +kernel
theorem dX5_ask_196 : decode cX5_ask 196 = .ok (.imul, 1) := by decide +kernel
theorem dX5_ask_197 : decode cX5_ask 197 = .ok (.aload_n 0, 1) := by decide +kernel
theorem dX5_ask_198 : decode cX5_ask 198 = .ok (.getfield 44, 3) := by decide +kernel
theorem dX5_ask_201 : decode cX5_ask 201 = .ok (.iload_n 1, 1) := by decide +kernel
theorem dX5_ask_202 : decode cX5_ask 202 = .ok (.iaload, 1) := by decide +kernel
theorem dX5_ask_203 : decode cX5_ask 203 = .ok (.iadd, 1) := by decide +kernel
theorem dX5_ask_204 : decode cX5_ask 204 = .ok (.iload_n 2, 1) := by decide +kernel
theorem dX5_ask_205 : decode cX5_ask 205 = .ok (.iastore, 1) := by decide +kernel
theorem dX5_ask_206 : decode cX5_ask 206 = .ok (.aload_n 0, 1) := by decide +kernel
theorem dX5_ask_207 : decode cX5_ask 207 = .ok (.getfield 44, 3) := by decide +kernel
theorem dX5_ask_210 : decode cX5_ask 210 = .ok (.iload_n 1, 1) := by decide +kernel
theorem dX5_ask_211 : decode cX5_ask 211 = .ok (.iload_n 2, 1) := by decide +kernel
theorem dX5_ask_212 : decode cX5_ask 212 = .ok (.iastore, 1) := by decide +kernel
theorem dX5_ask_213 : decode cX5_ask 213 = .ok (.aload_n 0, 1) := by decide +kernel
theorem dX5_ask_214 : decode cX5_ask 214 = .ok (.getfield 47, 3) := by decide +kernel
theorem dX5_ask_217 : decode cX5_ask 217 = .ok (.iload_n 1, 1) := by decide +kernel
theorem dX5_ask_218 : decode cX5_ask 218 = .ok (.iload 5, 2) := by decide +kernel
theorem dX5_ask_220 : decode cX5_ask 220 = .ok (.iastore, 1) := by decide +kernel
theorem dX5_ask_221 : decode cX5_ask 221 = .ok (.aload_n 0, 1) := by decide +kernel
theorem dX5_ask_222 : decode cX5_ask 222 = .ok (.iload_n 1, 1) := by decide +kernel
theorem dX5_ask_223 : decode cX5_ask 223 = .ok (.iload_n 2, 1) := by decide +kernel
theorem dX5_ask_224 : decode cX5_ask 224 = .ok (.iload 5, 2) := by decide +kernel
theorem dX5_ask_226 : decode cX5_ask 226 = .ok (.iload 6, 2) := by decide +kernel
theorem dX5_ask_228 : decode cX5_ask 228 = .ok (.invokevirtual 200, 3) := by decide +kernel
theorem dX5_ask_231 : decode cX5_ask 231 = .ok (.aload_n 0, 1) := by decide +kernel
theorem dX5_ask_232 : decode cX5_ask 232 = .ok (.getfield 126, 3) := by decide +kernel
theorem dX5_ask_235 : decode cX5_ask 235 = .ok (.aload_n 0, 1) := by decide +kernel
theorem dX5_ask_236 : decode cX5_ask 236 = .ok (.getfield 108, 3) := by decide +kernel
theorem dX5_ask_239 : decode cX5_ask 239 = .ok (.irem, 1) := by decide +kernel
theorem dX5_ask_240 : decode cX5_ask 240 = .ok (.ifCond .ne 7, 3) := by decide +kernel
theorem dX5_ask_243 : decode cX5_ask 243 = .ok (.aload_n 0, 1) := by decide +kernel
theorem dX5_ask_244 : decode cX5_ask 244 = .ok (.invokevirtual 197, 3) := by decide +kernel
theorem dX5_ask_247 : decode cX5_ask 247 = .ok (.iload 4, 2) := by decide +kernel
theorem dX5_ask_249 : decode cX5_ask 249 = .ok (.ireturn, 1) := by decide +kernel
theorem dX5_idle_0 : decode cX5_idle 0 = .ok (.iload_n 1, 1) := by decide +kernel
theorem dX5_idle_1 : decode cX5_idle 1 = .ok (.i2l, 1) := by decide +kernel
theorem dX5_idle_2 : decode cX5_idle 2 = .ok (.lconst 0, 1) := by decide +kernel
theorem dX5_idle_3 : decode cX5_idle 3 = .ok (.ldc2_w 204, 3) := by decide +kernel
theorem dX5_idle_6 : decode cX5_idle 6 = .ok (.invokestatic 96, 3) := by decide +kernel
theorem dX5_idle_9 : decode cX5_idle 9 = .ok (.ifCond .ne 6, 3) := by decide +kernel
theorem dX5_idle_12 : decode cX5_idle 12 = .ok (.bipush (-102), 2) := by decide +kernel
theorem dX5_idle_14 : decode cX5_idle 14 = .ok (.ireturn, 1) := by decide +kernel
theorem dX5_idle_15 : decode cX5_idle 15 = .ok (.aload_n 0, 1) := by decide +kernel
theorem dX5_idle_16 : decode cX5_idle 16 = .ok (.iconst 0, 1) := by decide +kernel
theorem dX5_idle_17 : decode cX5_idle 17 = .ok (.putfield 164, 3) := by decide +kernel
theorem dX5_idle_20 : decode cX5_idle 20 = .ok (.iconst 0, 1) := by decide +kernel
theorem dX5_idle_21 : decode cX5_idle 21 = .ok (.istore_n 2, 1) := by decide +kernel
theorem dX5_idle_22 : decode cX5_idle 22 = .ok (.iload_n 2, 1) := by decide +kernel
theorem dX5_idle_23 : decode cX5_idle 23 = .ok (.iload_n 1, 1) := by decide +kernel
theorem dX5_idle_24 : decode cX5_idle 24 = .ok (.if_icmp .ge 13, 3) := by decide +kernel
theorem dX5_idle_27 : decode cX5_idle 27 = .ok (.aload_n 0, 1) := by decide +kernel
theorem dX5_idle_28 : decode cX5_idle 28 = .ok (.invokevirtual 197, 3) := by decide +kernel
theorem dX5_idle_31 : decode cX5_idle 31 = .ok (.iinc 2 1, 3) := by decide +kernel
theorem dX5_idle_34 : decode cX5_idle 34 = .ok (.goto (-12), 3) := by decide +kernel
theorem dX5_idle_37 : decode cX5_idle 37 = .ok (.aload_n 0, 1) := by decide +kernel
theorem dX5_idle_38 : decode cX5_idle 38 = .ok (.getfield 164, 3) := by decide +kernel
theorem dX5_idle_41 : decode cX5_idle 41 = .ok (.ireturn, 1) := by decide +kernel
theorem dX5_waitsOf_0 : decode cX5_waitsOf 0 = .ok (.iconst 0, 1) := by decide +kernel
theorem dX5_waitsOf_1 : decode cX5_waitsOf 1 = .ok (.istore_n 2, 1) := by decide +kernel
theorem dX5_waitsOf_2 : decode cX5_waitsOf 2 = .ok (.iconst 0, 1) := by decide +kernel
theorem dX5_waitsOf_3 : decode cX5_waitsOf 3 = .ok (.istore_n 3, 1) := by decide +kernel
theorem dX5_waitsOf_4 : decode cX5_waitsOf 4 = .ok (.iload_n 3, 1) := by decide +kernel
theorem dX5_waitsOf_5 : decode cX5_waitsOf 5 = .ok (.aload_n 0, 1) := by decide +kernel
theorem dX5_waitsOf_6 : decode cX5_waitsOf 6 = .ok (.getfield 114, 3) := by decide +kernel
theorem dX5_waitsOf_9 : decode cX5_waitsOf 9 = .ok (.if_icmp .ge 27, 3) := by decide +kernel
theorem dX5_waitsOf_12 : decode cX5_waitsOf 12 = .ok (.iload_n 2, 1) := by decide +kernel
theorem dX5_waitsOf_13 : decode cX5_waitsOf 13 = .ok (.aload_n 0, 1) := by decide +kernel
theorem dX5_waitsOf_14 : decode cX5_waitsOf 14 = .ok (.getfield 23, 3) := by decide +kernel
theorem dX5_waitsOf_17 : decode cX5_waitsOf 17 = .ok (.iload_n 3, 1) := by decide +kernel
theorem dX5_waitsOf_18 : decode cX5_waitsOf 18 = .ok (.iaload, 1) := by decide +kernel
theorem dX5_waitsOf_19 : decode cX5_waitsOf 19 = .ok (.iload_n 1, 1) := by decide +kernel
theorem dX5_waitsOf_20 : decode cX5_waitsOf 20 = .ok (.if_icmp .ne 7, 3) := by decide +kernel
theorem dX5_waitsOf_23 : decode cX5_waitsOf 23 = .ok (.iconst 1, 1) := by decide +kernel
theorem dX5_waitsOf_24 : decode cX5_waitsOf 24 = .ok (.goto 4, 3) := by decide +kernel
theorem dX5_waitsOf_27 : decode cX5_waitsOf 27 = .ok (.iconst 0, 1) := by decide +kernel
theorem dX5_waitsOf_28 : decode cX5_waitsOf 28 = .ok (.iadd, 1) := by decide +kernel
theorem dX5_waitsOf_29 : decode cX5_waitsOf 29 = .ok (.istore_n 2, 1) := by decide +kernel
theorem dX5_waitsOf_30 : decode cX5_waitsOf 30 = .ok (.iinc 3 1, 3) := by decide +kernel
theorem dX5_waitsOf_33 : decode cX5_waitsOf 33 = .ok (.goto (-29), 3) := by decide +kernel
theorem dX5_waitsOf_36 : decode cX5_waitsOf 36 = .ok (.iload_n 2, 1) := by decide +kernel
theorem dX5_waitsOf_37 : decode cX5_waitsOf 37 = .ok (.ireturn, 1) := by decide +kernel
theorem dX5_toldOf_0 : decode cX5_toldOf 0 = .ok (.iload_n 2, 1) := by decide +kernel
theorem dX5_toldOf_1 : decode cX5_toldOf 1 = .ok (.bipush 7, 2) := by decide +kernel
theorem dX5_toldOf_3 : decode cX5_toldOf 3 = .ok (.if_icmp .ge 17, 3) := by decide +kernel
theorem dX5_toldOf_6 : decode cX5_toldOf 6 = .ok (.aload_n 0, 1) := by decide +kernel
theorem dX5_toldOf_7 : decode cX5_toldOf 7 = .ok (.getfield 53, 3) := by decide +kernel
theorem dX5_toldOf_10 : decode cX5_toldOf 10 = .ok (.bipush 7, 2) := by decide +kernel
theorem dX5_toldOf_12 : decode cX5_toldOf 12 = .ok (.iload_n 1, 1) := by decide +kernel
theorem dX5_toldOf_13 : decode cX5_toldOf 13 = .ok (.imul, 1) := by decide +kernel
theorem dX5_toldOf_14 : decode cX5_toldOf 14 = .ok (.iload_n 2, 1) := by decide +kernel
theorem dX5_toldOf_15 : decode cX5_toldOf 15 = .ok (.iadd, 1) := by decide +kernel
theorem dX5_toldOf_16 : decode cX5_toldOf 16 = .ok (.iaload, 1) := by decide +kernel
theorem dX5_toldOf_17 : decode cX5_toldOf 17 = .ok (.goto 37, 3) := by decide +kernel
theorem dX5_toldOf_20 : decode cX5_toldOf 20 = .ok (.iload_n 2, 1) := by decide +kernel
theorem dX5_toldOf_21 : decode cX5_toldOf 21 = .ok (.bipush 7, 2) := by decide +kernel
theorem dX5_toldOf_23 : decode cX5_toldOf 23 = .ok (.if_icmp .ne 11, 3) := by decide +kernel
theorem dX5_toldOf_26 : decode cX5_toldOf 26 = .ok (.aload_n 0, 1) := by decide +kernel
theorem dX5_toldOf_27 : decode cX5_toldOf 27 = .ok (.iload_n 1, 1) := by decide +kernel
theorem dX5_toldOf_28 : decode cX5_toldOf 28 = .ok (.invokevirtual 148, 3) := by decide +kernel
theorem dX5_toldOf_31 : decode cX5_toldOf 31 = .ok (.goto 23, 3) := by decide +kernel
theorem dX5_toldOf_34 : decode cX5_toldOf 34 = .ok (.iload_n 2, 1) := by decide +kernel
theorem dX5_toldOf_35 : decode cX5_toldOf 35 = .ok (.bipush 8, 2) := by decide +kernel
theorem dX5_toldOf_37 : decode cX5_toldOf 37 = .ok (.if_icmp .ne 12, 3) := by decide +kernel
theorem dX5_toldOf_40 : decode cX5_toldOf 40 = .ok (.aload_n 0, 1) := by decide +kernel
theorem dX5_toldOf_41 : decode cX5_toldOf 41 = .ok (.getfield 35, 3) := by decide +kernel
theorem dX5_toldOf_44 : decode cX5_toldOf 44 = .ok (.iload_n 1, 1) := by decide +kernel
theorem dX5_toldOf_45 : decode cX5_toldOf 45 = .ok (.iaload, 1) := by decide +kernel
theorem dX5_toldOf_46 : decode cX5_toldOf 46 = .ok (.goto 8, 3) := by decide +kernel
theorem dX5_toldOf_49 : decode cX5_toldOf 49 = .ok (.aload_n 0, 1) := by decide +kernel
theorem dX5_toldOf_50 : decode cX5_toldOf 50 = .ok (.iload_n 1, 1) := by decide +kernel
theorem dX5_toldOf_51 : decode cX5_toldOf 51 = .ok (.invokevirtual 206, 3) := by decide +kernel
theorem dX5_toldOf_54 : decode cX5_toldOf 54 = .ok (.ireturn, 1) := by decide +kernel
theorem dX5_told_0 : decode cX5_told 0 = .ok (.iload_n 1, 1) := by decide +kernel
theorem dX5_told_1 : decode cX5_told 1 = .ok (.iconst (-1), 1) := by decide +kernel
theorem dX5_told_2 : decode cX5_told 2 = .ok (.if_icmp .eq 13, 3) := by decide +kernel
theorem dX5_told_5 : decode cX5_told 5 = .ok (.iload_n 1, 1) := by decide +kernel
theorem dX5_told_6 : decode cX5_told 6 = .ok (.invokestatic 137, 3) := by decide +kernel
theorem dX5_told_9 : decode cX5_told 9 = .ok (.ifCond .ne 6, 3) := by decide +kernel
theorem dX5_told_12 : decode cX5_told 12 = .ok (.bipush (-101), 2) := by decide +kernel
theorem dX5_told_14 : decode cX5_told 14 = .ok (.ireturn, 1) := by decide +kernel
theorem dX5_told_15 : decode cX5_told 15 = .ok (.iload_n 2, 1) := by decide +kernel
theorem dX5_told_16 : decode cX5_told 16 = .ok (.i2l, 1) := by decide +kernel
theorem dX5_told_17 : decode cX5_told 17 = .ok (.lconst 0, 1) := by decide +kernel
theorem dX5_told_18 : decode cX5_told 18 = .ok (.ldc2_w 209, 3) := by decide +kernel
theorem dX5_told_21 : decode cX5_told 21 = .ok (.invokestatic 96, 3) := by decide +kernel
theorem dX5_told_24 : decode cX5_told 24 = .ok (.ifCond .ne 6, 3) := by decide +kernel
theorem dX5_told_27 : decode cX5_told 27 = .ok (.bipush (-102), 2) := by decide +kernel
theorem dX5_told_29 : decode cX5_told 29 = .ok (.ireturn, 1) := by decide +kernel
theorem dX5_told_30 : decode cX5_told 30 = .ok (.iconst 0, 1) := by decide +kernel
theorem dX5_told_31 : decode cX5_told 31 = .ok (.istore_n 3, 1) := by decide +kernel
theorem dX5_told_32 : decode cX5_told 32 = .ok (.iconst 0, 1) := by decide +kernel
theorem dX5_told_33 : decode cX5_told 33 = .ok (.istore 4, 2) := by decide +kernel
theorem dX5_told_35 : decode cX5_told 35 = .ok (.iload 4, 2) := by decide +kernel
theorem dX5_told_37 : decode cX5_told 37 = .ok (.iconst 4, 1) := by decide +kernel
theorem dX5_told_38 : decode cX5_told 38 = .ok (.if_icmp .ge 34, 3) := by decide +kernel
theorem dX5_told_41 : decode cX5_told 41 = .ok (.iload_n 3, 1) := by decide +kernel
theorem dX5_told_42 : decode cX5_told 42 = .ok (.iload_n 1, 1) := by decide +kernel
theorem dX5_told_43 : decode cX5_told 43 = .ok (.iconst (-1), 1) := by decide +kernel
theorem dX5_told_44 : decode cX5_told 44 = .ok (.if_icmp .eq 9, 3) := by decide +kernel
theorem dX5_told_47 : decode cX5_told 47 = .ok (.iload_n 1, 1) := by decide +kernel
theorem dX5_told_48 : decode cX5_told 48 = .ok (.iload 4, 2) := by decide +kernel
theorem dX5_told_50 : decode cX5_told 50 = .ok (.if_icmp .ne 13, 3) := by decide +kernel
theorem dX5_told_53 : decode cX5_told 53 = .ok (.aload_n 0, 1) := by decide +kernel
theorem dX5_told_54 : decode cX5_told 54 = .ok (.iload 4, 2) := by decide +kernel
theorem dX5_told_56 : decode cX5_told 56 = .ok (.iload_n 2, 1) := by decide +kernel
theorem dX5_told_57 : decode cX5_told 57 = .ok (.invokevirtual 211, 3) := by decide +kernel
theorem dX5_told_60 : decode cX5_told 60 = .ok (.goto 4, 3) := by decide +kernel
theorem dX5_told_63 : decode cX5_told 63 = .ok (.iconst 0, 1) := by decide +kernel
theorem dX5_told_64 : decode cX5_told 64 = .ok (.iadd, 1) := by decide +kernel
theorem dX5_told_65 : decode cX5_told 65 = .ok (.istore_n 3, 1) := by decide +kernel
theorem dX5_told_66 : decode cX5_told 66 = .ok (.iinc 4 1, 3) := by decide +kernel
theorem dX5_told_69 : decode cX5_told 69 = .ok (.goto (-34), 3) := by decide +kernel
theorem dX5_told_72 : decode cX5_told 72 = .ok (.iload_n 3, 1) := by decide +kernel
theorem dX5_told_73 : decode cX5_told 73 = .ok (.ireturn, 1) := by decide +kernel
theorem dX5_reachOf_0 : decode cX5_reachOf 0 = .ok (.aload_n 0, 1) := by decide +kernel
theorem dX5_reachOf_1 : decode cX5_reachOf 1 = .ok (.getfield 26, 3) := by decide +kernel
theorem dX5_reachOf_4 : decode cX5_reachOf 4 = .ok (.iload_n 1, 1) := by decide +kernel
theorem dX5_reachOf_5 : decode cX5_reachOf 5 = .ok (.iaload, 1) := by decide +kernel
theorem dX5_reachOf_6 : decode cX5_reachOf 6 = .ok (.iconst 5, 1) := by decide +kernel
theorem dX5_reachOf_7 : decode cX5_reachOf 7 = .ok (.if_icmp .ne 12, 3) := by decide +kernel
theorem dX5_reachOf_10 : decode cX5_reachOf 10 = .ok (.aload_n 0, 1) := by decide +kernel
theorem dX5_reachOf_11 : decode cX5_reachOf 11 = .ok (.getfield 32, 3) := by decide +kernel
theorem dX5_reachOf_14 : decode cX5_reachOf 14 = .ok (.iload_n 1, 1) := by decide +kernel
theorem dX5_reachOf_15 : decode cX5_reachOf 15 = .ok (.iaload, 1) := by decide +kernel
theorem dX5_reachOf_16 : decode cX5_reachOf 16 = .ok (.goto 9, 3) := by decide +kernel
theorem dX5_reachOf_19 : decode cX5_reachOf 19 = .ok (.aload_n 0, 1) := by decide +kernel
theorem dX5_reachOf_20 : decode cX5_reachOf 20 = .ok (.getfield 29, 3) := by decide +kernel
theorem dX5_reachOf_23 : decode cX5_reachOf 23 = .ok (.iload_n 1, 1) := by decide +kernel
theorem dX5_reachOf_24 : decode cX5_reachOf 24 = .ok (.iaload, 1) := by decide +kernel
theorem dX5_reachOf_25 : decode cX5_reachOf 25 = .ok (.ireturn, 1) := by decide +kernel
theorem dX5_reach_0 : decode cX5_reach 0 = .ok (.iload_n 1, 1) := by decide +kernel
theorem dX5_reach_1 : decode cX5_reach 1 = .ok (.invokestatic 137, 3) := by decide +kernel
theorem dX5_reach_4 : decode cX5_reach 4 = .ok (.ifCond .eq 11, 3) := by decide +kernel
theorem dX5_reach_7 : decode cX5_reach 7 = .ok (.aload_n 0, 1) := by decide +kernel
theorem dX5_reach_8 : decode cX5_reach 8 = .ok (.iload_n 1, 1) := by decide +kernel
theorem dX5_reach_9 : decode cX5_reach 9 = .ok (.invokevirtual 187, 3) := by decide +kernel
theorem dX5_reach_12 : decode cX5_reach 12 = .ok (.goto 5, 3) := by decide +kernel
theorem dX5_reach_15 : decode cX5_reach 15 = .ok (.bipush (-101), 2) := by decide +kernel
theorem dX5_reach_17 : decode cX5_reach 17 = .ok (.ireturn, 1) := by decide +kernel
theorem dX5_room_0 : decode cX5_room 0 = .ok (.iload_n 2, 1) := by decide +kernel
theorem dX5_room_1 : decode cX5_room 1 = .ok (.i2l, 1) := by decide +kernel
theorem dX5_room_2 : decode cX5_room 2 = .ok (.lconst 0, 1) := by decide +kernel
theorem dX5_room_3 : decode cX5_room 3 = .ok (.ldc2_w 94, 3) := by decide +kernel
theorem dX5_room_6 : decode cX5_room 6 = .ok (.invokestatic 96, 3) := by decide +kernel
theorem dX5_room_9 : decode cX5_room 9 = .ok (.ifCond .ne 6, 3) := by decide +kernel
theorem dX5_room_12 : decode cX5_room 12 = .ok (.bipush (-102), 2) := by decide +kernel
theorem dX5_room_14 : decode cX5_room 14 = .ok (.ireturn, 1) := by decide +kernel
theorem dX5_room_15 : decode cX5_room 15 = .ok (.iload_n 1, 1) := by decide +kernel
theorem dX5_room_16 : decode cX5_room 16 = .ok (.i2l, 1) := by decide +kernel
theorem dX5_room_17 : decode cX5_room 17 = .ok (.lconst 0, 1) := by decide +kernel
theorem dX5_room_18 : decode cX5_room 18 = .ok (.aload_n 0, 1) := by decide +kernel
theorem dX5_room_19 : decode cX5_room 19 = .ok (.getfield 111, 3) := by decide +kernel
theorem dX5_room_22 : decode cX5_room 22 = .ok (.iconst 1, 1) := by decide +kernel
theorem dX5_room_23 : decode cX5_room 23 = .ok (.isub, 1) := by decide +kernel
theorem dX5_room_24 : decode cX5_room 24 = .ok (.i2l, 1) := by decide +kernel
theorem dX5_room_25 : decode cX5_room 25 = .ok (.invokestatic 96, 3) := by decide +kernel
theorem dX5_room_28 : decode cX5_room 28 = .ok (.ifCond .ne 5, 3) := by decide +kernel
theorem dX5_room_31 : decode cX5_room 31 = .ok (.iconst (-1), 1) := by decide +kernel
theorem dX5_room_32 : decode cX5_room 32 = .ok (.ireturn, 1) := by decide +kernel
theorem dX5_room_33 : decode cX5_room 33 = .ok (.iload_n 2, 1) := by decide +kernel
theorem dX5_room_34 : decode cX5_room 34 = .ok (.ifCond .ne 12, 3) := by decide +kernel
theorem dX5_room_37 : decode cX5_room 37 = .ok (.aload_n 0, 1) := by decide +kernel
theorem dX5_room_38 : decode cX5_room 38 = .ok (.getfield 7, 3) := by decide +kernel
theorem dX5_room_41 : decode cX5_room 41 = .ok (.iload_n 1, 1) := by decide +kernel
theorem dX5_room_42 : decode cX5_room 42 = .ok (.iaload, 1) := by decide +kernel
theorem dX5_room_43 : decode cX5_room 43 = .ok (.goto 47, 3) := by decide +kernel
theorem dX5_room_46 : decode cX5_room 46 = .ok (.iload_n 2, 1) := by decide +kernel
theorem dX5_room_47 : decode cX5_room 47 = .ok (.iconst 1, 1) := by decide +kernel
theorem dX5_room_48 : decode cX5_room 48 = .ok (.if_icmp .ne 12, 3) := by decide +kernel
theorem dX5_room_51 : decode cX5_room 51 = .ok (.aload_n 0, 1) := by decide +kernel
theorem dX5_room_52 : decode cX5_room 52 = .ok (.getfield 13, 3) := by decide +kernel
theorem dX5_room_55 : decode cX5_room 55 = .ok (.iload_n 1, 1) := by decide +kernel
theorem dX5_room_56 : decode cX5_room 56 = .ok (.iaload, 1) := by decide +kernel
theorem dX5_room_57 : decode cX5_room 57 = .ok (.goto 33, 3) := by decide +kernel
theorem dX5_room_60 : decode cX5_room 60 = .ok (.iload_n 2, 1) := by decide +kernel
theorem dX5_room_61 : decode cX5_room 61 = .ok (.iconst 2, 1) := by decide +kernel
theorem dX5_room_62 : decode cX5_room 62 = .ok (.if_icmp .ne 15, 3) := by decide +kernel
theorem dX5_room_65 : decode cX5_room 65 = .ok (.aload_n 0, 1) := by decide +kernel
theorem dX5_room_66 : decode cX5_room 66 = .ok (.getfield 16, 3) := by decide +kernel
theorem dX5_room_69 : decode cX5_room 69 = .ok (.iload_n 1, 1) := by decide +kernel
theorem dX5_room_70 : decode cX5_room 70 = .ok (.baload, 1) := by decide +kernel
theorem dX5_room_71 : decode cX5_room 71 = .ok (.ifCond .eq 18, 3) := by decide +kernel
theorem dX5_room_74 : decode cX5_room 74 = .ok (.goto 11, 3) := by decide +kernel
theorem dX5_room_77 : decode cX5_room 77 = .ok (.aload_n 0, 1) := by decide +kernel
theorem dX5_room_78 : decode cX5_room 78 = .ok (.iload_n 1, 1) := by decide +kernel
theorem dX5_room_79 : decode cX5_room 79 = .ok (.invokevirtual 151, 3) := by decide +kernel
theorem dX5_room_82 : decode cX5_room 82 = .ok (.ifCond .eq 7, 3) := by decide +kernel
theorem dX5_room_85 : decode cX5_room 85 = .ok (.iconst 1, 1) := by decide +kernel
theorem dX5_room_86 : decode cX5_room 86 = .ok (.goto 4, 3) := by decide +kernel
theorem dX5_room_89 : decode cX5_room 89 = .ok (.iconst 0, 1) := by decide +kernel
theorem dX5_room_90 : decode cX5_room 90 = .ok (.ireturn, 1) := by decide +kernel
theorem dX5_waiting_0 : decode cX5_waiting 0 = .ok (.iload_n 2, 1) := by decide +kernel
theorem dX5_waiting_1 : decode cX5_waiting 1 = .ok (.i2l, 1) := by decide +kernel
theorem dX5_waiting_2 : decode cX5_waiting 2 = .ok (.lconst 0, 1) := by decide +kernel
theorem dX5_waiting_3 : decode cX5_waiting 3 = .ok (.lconst 1, 1) := by decide +kernel
theorem dX5_waiting_4 : decode cX5_waiting 4 = .ok (.invokestatic 96, 3) := by decide +kernel
theorem dX5_waiting_7 : decode cX5_waiting 7 = .ok (.ifCond .ne 6, 3) := by decide +kernel
theorem dX5_waiting_10 : decode cX5_waiting 10 = .ok (.bipush (-102), 2) := by decide +kernel
theorem dX5_waiting_12 : decode cX5_waiting 12 = .ok (.ireturn, 1) := by decide +kernel
theorem dX5_waiting_13 : decode cX5_waiting 13 = .ok (.iload_n 1, 1) := by decide +kernel
theorem dX5_waiting_14 : decode cX5_waiting 14 = .ok (.i2l, 1) := by decide +kernel
theorem dX5_waiting_15 : decode cX5_waiting 15 = .ok (.lconst 0, 1) := by decide +kernel
theorem dX5_waiting_16 : decode cX5_waiting 16 = .ok (.aload_n 0, 1) := by decide +kernel
theorem dX5_waiting_17 : decode cX5_waiting 17 = .ok (.getfield 114, 3) := by decide +kernel
theorem dX5_waiting_20 : decode cX5_waiting 20 = .ok (.iconst 1, 1) := by decide +kernel
theorem dX5_waiting_21 : decode cX5_waiting 21 = .ok (.isub, 1) := by decide +kernel
theorem dX5_waiting_22 : decode cX5_waiting 22 = .ok (.i2l, 1) := by decide +kernel
theorem dX5_waiting_23 : decode cX5_waiting 23 = .ok (.invokestatic 96, 3) := by decide +kernel
theorem dX5_waiting_26 : decode cX5_waiting 26 = .ok (.ifCond .ne 7, 3) := by decide +kernel
theorem dX5_waiting_29 : decode cX5_waiting 29 = .ok (.iconst (-1), 1) := by decide +kernel
theorem dX5_waiting_30 : decode cX5_waiting 30 = .ok (.goto 22, 3) := by decide +kernel
theorem dX5_waiting_33 : decode cX5_waiting 33 = .ok (.iload_n 2, 1) := by decide +kernel
theorem dX5_waiting_34 : decode cX5_waiting 34 = .ok (.ifCond .ne 12, 3) := by decide +kernel
theorem dX5_waiting_37 : decode cX5_waiting 37 = .ok (.aload_n 0, 1) := by decide +kernel
theorem dX5_waiting_38 : decode cX5_waiting 38 = .ok (.getfield 20, 3) := by decide +kernel
theorem dX5_waiting_41 : decode cX5_waiting 41 = .ok (.iload_n 1, 1) := by decide +kernel
theorem dX5_waiting_42 : decode cX5_waiting 42 = .ok (.iaload, 1) := by decide +kernel
theorem dX5_waiting_43 : decode cX5_waiting 43 = .ok (.goto 9, 3) := by decide +kernel
theorem dX5_waiting_46 : decode cX5_waiting 46 = .ok (.aload_n 0, 1) := by decide +kernel
theorem dX5_waiting_47 : decode cX5_waiting 47 = .ok (.getfield 23, 3) := by decide +kernel
theorem dX5_waiting_50 : decode cX5_waiting 50 = .ok (.iload_n 1, 1) := by decide +kernel
theorem dX5_waiting_51 : decode cX5_waiting 51 = .ok (.iaload, 1) := by decide +kernel
theorem dX5_waiting_52 : decode cX5_waiting 52 = .ok (.ireturn, 1) := by decide +kernel
theorem dX5_follows_0 : decode cX5_follows 0 = .ok (.iload_n 1, 1) := by decide +kernel
theorem dX5_follows_1 : decode cX5_follows 1 = .ok (.invokestatic 137, 3) := by decide +kernel
theorem dX5_follows_4 : decode cX5_follows 4 = .ok (.ifCond .ne 8, 3) := by decide +kernel
theorem dX5_follows_7 : decode cX5_follows 7 = .ok (.bipush (-101), 2) := by decide +kernel
theorem dX5_follows_9 : decode cX5_follows 9 = .ok (.goto 26, 3) := by decide +kernel
theorem dX5_follows_12 : decode cX5_follows 12 = .ok (.iload_n 2, 1) := by decide +kernel
theorem dX5_follows_13 : decode cX5_follows 13 = .ok (.invokestatic 145, 3) := by decide +kernel
theorem dX5_follows_16 : decode cX5_follows 16 = .ok (.ifCond .eq 17, 3) := by decide +kernel
theorem dX5_follows_19 : decode cX5_follows 19 = .ok (.aload_n 0, 1) := by decide +kernel
theorem dX5_follows_20 : decode cX5_follows 20 = .ok (.getfield 50, 3) := by decide +kernel
theorem dX5_follows_23 : decode cX5_follows 23 = .ok (.bipush 64, 2) := by decide +kernel
theorem dX5_follows_25 : decode cX5_follows 25 = .ok (.iload_n 1, 1) := by decide +kernel
theorem dX5_follows_26 : decode cX5_follows 26 = .ok (.imul, 1) := by decide +kernel
theorem dX5_follows_27 : decode cX5_follows 27 = .ok (.iload_n 2, 1) := by decide +kernel
theorem dX5_follows_28 : decode cX5_follows 28 = .ok (.iadd, 1) := by decide +kernel
theorem dX5_follows_29 : decode cX5_follows 29 = .ok (.iaload, 1) := by decide +kernel
theorem dX5_follows_30 : decode cX5_follows 30 = .ok (.goto 5, 3) := by decide +kernel
theorem dX5_follows_33 : decode cX5_follows 33 = .ok (.bipush (-102), 2) := by decide +kernel
theorem dX5_follows_35 : decode cX5_follows 35 = .ok (.ireturn, 1) := by decide +kernel
theorem dX5_house_0 : decode cX5_house 0 = .ok (.iload_n 1, 1) := by decide +kernel
theorem dX5_house_1 : decode cX5_house 1 = .ok (.tableswitch 87 0 7 #[47, 52, 57, 62, 67, 72, 77, 82], 47) := by decide +kernel
theorem dX5_house_48 : decode cX5_house 48 = .ok (.aload_n 0, 1) := by decide +kernel
theorem dX5_house_49 : decode cX5_house 49 = .ok (.getfield 117, 3) := by decide +kernel
theorem dX5_house_52 : decode cX5_house 52 = .ok (.ireturn, 1) := by decide +kernel
theorem dX5_house_53 : decode cX5_house 53 = .ok (.aload_n 0, 1) := by decide +kernel
theorem dX5_house_54 : decode cX5_house 54 = .ok (.getfield 120, 3) := by decide +kernel
theorem dX5_house_57 : decode cX5_house 57 = .ok (.ireturn, 1) := by decide +kernel
theorem dX5_house_58 : decode cX5_house 58 = .ok (.aload_n 0, 1) := by decide +kernel
theorem dX5_house_59 : decode cX5_house 59 = .ok (.getfield 102, 3) := by decide +kernel
theorem dX5_house_62 : decode cX5_house 62 = .ok (.ireturn, 1) := by decide +kernel
theorem dX5_house_63 : decode cX5_house 63 = .ok (.aload_n 0, 1) := by decide +kernel
theorem dX5_house_64 : decode cX5_house 64 = .ok (.getfield 105, 3) := by decide +kernel
theorem dX5_house_67 : decode cX5_house 67 = .ok (.ireturn, 1) := by decide +kernel
theorem dX5_house_68 : decode cX5_house 68 = .ok (.aload_n 0, 1) := by decide +kernel
theorem dX5_house_69 : decode cX5_house 69 = .ok (.getfield 111, 3) := by decide +kernel
theorem dX5_house_72 : decode cX5_house 72 = .ok (.ireturn, 1) := by decide +kernel
theorem dX5_house_73 : decode cX5_house 73 = .ok (.aload_n 0, 1) := by decide +kernel
theorem dX5_house_74 : decode cX5_house 74 = .ok (.getfield 114, 3) := by decide +kernel
theorem dX5_house_77 : decode cX5_house 77 = .ok (.ireturn, 1) := by decide +kernel
theorem dX5_house_78 : decode cX5_house 78 = .ok (.aload_n 0, 1) := by decide +kernel
theorem dX5_house_79 : decode cX5_house 79 = .ok (.getfield 123, 3) := by decide +kernel
theorem dX5_house_82 : decode cX5_house 82 = .ok (.ireturn, 1) := by decide +kernel
theorem dX5_house_83 : decode cX5_house 83 = .ok (.aload_n 0, 1) := by decide +kernel
theorem dX5_house_84 : decode cX5_house 84 = .ok (.getfield 108, 3) := by decide +kernel
theorem dX5_house_87 : decode cX5_house 87 = .ok (.ireturn, 1) := by decide +kernel
theorem dX5_house_88 : decode cX5_house 88 = .ok (.bipush (-102), 2) := by decide +kernel
theorem dX5_house_90 : decode cX5_house 90 = .ok (.ireturn, 1) := by decide +kernel
theorem dX5_sizeOf_0 : decode cX5_sizeOf 0 = .ok (.iconst 0, 1) := by decide +kernel
theorem dX5_sizeOf_1 : decode cX5_sizeOf 1 = .ok (.istore_n 1, 1) := by decide +kernel
theorem dX5_sizeOf_2 : decode cX5_sizeOf 2 = .ok (.iconst 0, 1) := by decide +kernel
theorem dX5_sizeOf_3 : decode cX5_sizeOf 3 = .ok (.istore_n 2, 1) := by decide +kernel
theorem dX5_sizeOf_4 : decode cX5_sizeOf 4 = .ok (.iload_n 2, 1) := by decide +kernel
theorem dX5_sizeOf_5 : decode cX5_sizeOf 5 = .ok (.bipush 7, 2) := by decide +kernel
theorem dX5_sizeOf_7 : decode cX5_sizeOf 7 = .ok (.if_icmp .ge 17, 3) := by decide +kernel
theorem dX5_sizeOf_10 : decode cX5_sizeOf 10 = .ok (.iload_n 1, 1) := by decide +kernel
theorem dX5_sizeOf_11 : decode cX5_sizeOf 11 = .ok (.iload_n 0, 1) := by decide +kernel
theorem dX5_sizeOf_12 : decode cX5_sizeOf 12 = .ok (.iload_n 2, 1) := by decide +kernel
theorem dX5_sizeOf_13 : decode cX5_sizeOf 13 = .ok (.ishr, 1) := by decide +kernel
theorem dX5_sizeOf_14 : decode cX5_sizeOf 14 = .ok (.iconst 1, 1) := by decide +kernel
theorem dX5_sizeOf_15 : decode cX5_sizeOf 15 = .ok (.iand, 1) := by decide +kernel
theorem dX5_sizeOf_16 : decode cX5_sizeOf 16 = .ok (.iadd, 1) := by decide +kernel
theorem dX5_sizeOf_17 : decode cX5_sizeOf 17 = .ok (.istore_n 1, 1) := by decide +kernel
theorem dX5_sizeOf_18 : decode cX5_sizeOf 18 = .ok (.iinc 2 1, 3) := by decide +kernel
theorem dX5_sizeOf_21 : decode cX5_sizeOf 21 = .ok (.goto (-17), 3) := by decide +kernel
theorem dX5_sizeOf_24 : decode cX5_sizeOf 24 = .ok (.iload_n 1, 1) := by decide +kernel
theorem dX5_sizeOf_25 : decode cX5_sizeOf 25 = .ok (.ireturn, 1) := by decide +kernel
theorem dX5_addSets_0 : decode cX5_addSets 0 = .ok (.iconst 0, 1) := by decide +kernel
theorem dX5_addSets_1 : decode cX5_addSets 1 = .ok (.istore_n 2, 1) := by decide +kernel
theorem dX5_addSets_2 : decode cX5_addSets 2 = .ok (.iload_n 2, 1) := by decide +kernel
theorem dX5_addSets_3 : decode cX5_addSets 3 = .ok (.aload_n 0, 1) := by decide +kernel
theorem dX5_addSets_4 : decode cX5_addSets 4 = .ok (.getfield 215, 3) := by decide +kernel
theorem dX5_addSets_7 : decode cX5_addSets 7 = .ok (.if_icmp .ge 84, 3) := by decide +kernel
theorem dX5_addSets_10 : decode cX5_addSets 10 = .ok (.iload_n 1, 1) := by decide +kernel
theorem dX5_addSets_11 : decode cX5_addSets 11 = .ok (.iload_n 2, 1) := by decide +kernel
theorem dX5_addSets_12 : decode cX5_addSets 12 = .ok (.ishr, 1) := by decide +kernel
theorem dX5_addSets_13 : decode cX5_addSets 13 = .ok (.iconst 1, 1) := by decide +kernel
theorem dX5_addSets_14 : decode cX5_addSets 14 = .ok (.iand, 1) := by decide +kernel
theorem dX5_addSets_15 : decode cX5_addSets 15 = .ok (.ifCond .ne 70, 3) := by decide +kernel
theorem dX5_addSets_18 : decode cX5_addSets 18 = .ok (.iload_n 1, 1) := by decide +kernel
theorem dX5_addSets_19 : decode cX5_addSets 19 = .ok (.invokestatic 218, 3) := by decide +kernel
theorem dX5_addSets_22 : decode cX5_addSets 22 = .ok (.aload_n 0, 1) := by decide +kernel
theorem dX5_addSets_23 : decode cX5_addSets 23 = .ok (.getfield 102, 3) := by decide +kernel
theorem dX5_addSets_26 : decode cX5_addSets 26 = .ok (.if_icmp .ge 17, 3) := by decide +kernel
theorem dX5_addSets_29 : decode cX5_addSets 29 = .ok (.aload_n 0, 1) := by decide +kernel
theorem dX5_addSets_30 : decode cX5_addSets 30 = .ok (.getfield 75, 3) := by decide +kernel
theorem dX5_addSets_33 : decode cX5_addSets 33 = .ok (.iload_n 1, 1) := by decide +kernel
theorem dX5_addSets_34 : decode cX5_addSets 34 = .ok (.iconst 1, 1) := by decide +kernel
theorem dX5_addSets_35 : decode cX5_addSets 35 = .ok (.iload_n 2, 1) := by decide +kernel
theorem dX5_addSets_36 : decode cX5_addSets 36 = .ok (.ishl, 1) := by decide +kernel
theorem dX5_addSets_37 : decode cX5_addSets 37 = .ok (.ior, 1) := by decide +kernel
theorem dX5_addSets_38 : decode cX5_addSets 38 = .ok (.iconst 1, 1) := by decide +kernel
theorem dX5_addSets_39 : decode cX5_addSets 39 = .ok (.bastore, 1) := by decide +kernel
theorem dX5_addSets_40 : decode cX5_addSets 40 = .ok (.goto 45, 3) := by decide +kernel
theorem dX5_addSets_43 : decode cX5_addSets 43 = .ok (.iconst 0, 1) := by decide +kernel
theorem dX5_addSets_44 : decode cX5_addSets 44 = .ok (.istore_n 3, 1) := by decide +kernel
theorem dX5_addSets_45 : decode cX5_addSets 45 = .ok (.iload_n 3, 1) := by decide +kernel
theorem dX5_addSets_46 : decode cX5_addSets 46 = .ok (.aload_n 0, 1) := by decide +kernel
theorem dX5_addSets_47 : decode cX5_addSets 47 = .ok (.getfield 215, 3) := by decide +kernel
theorem dX5_addSets_50 : decode cX5_addSets 50 = .ok (.if_icmp .ge 35, 3) := by decide +kernel
theorem dX5_addSets_53 : decode cX5_addSets 53 = .ok (.iload_n 1, 1) := by decide +kernel
theorem dX5_addSets_54 : decode cX5_addSets 54 = .ok (.iload_n 3, 1) := by decide +kernel
theorem dX5_addSets_55 : decode cX5_addSets 55 = .ok (.ishr, 1) := by decide +kernel
theorem dX5_addSets_56 : decode cX5_addSets 56 = .ok (.iconst 1, 1) := by decide +kernel
theorem dX5_addSets_57 : decode cX5_addSets 57 = .ok (.iand, 1) := by decide +kernel
theorem dX5_addSets_58 : decode cX5_addSets 58 = .ok (.iconst 1, 1) := by decide +kernel
theorem dX5_addSets_59 : decode cX5_addSets 59 = .ok (.if_icmp .ne 20, 3) := by decide +kernel
theorem dX5_addSets_62 : decode cX5_addSets 62 = .ok (.aload_n 0, 1) := by decide +kernel
theorem dX5_addSets_63 : decode cX5_addSets 63 = .ok (.getfield 75, 3) := by decide +kernel
theorem dX5_addSets_66 : decode cX5_addSets 66 = .ok (.iload_n 1, 1) := by decide +kernel
theorem dX5_addSets_67 : decode cX5_addSets 67 = .ok (.iconst 1, 1) := by decide +kernel
theorem dX5_addSets_68 : decode cX5_addSets 68 = .ok (.iload_n 3, 1) := by decide +kernel
theorem dX5_addSets_69 : decode cX5_addSets 69 = .ok (.ishl, 1) := by decide +kernel
theorem dX5_addSets_70 : decode cX5_addSets 70 = .ok (.iconst (-1), 1) := by decide +kernel
theorem dX5_addSets_71 : decode cX5_addSets 71 = .ok (.ixor, 1) := by decide +kernel
theorem dX5_addSets_72 : decode cX5_addSets 72 = .ok (.iand, 1) := by decide +kernel
theorem dX5_addSets_73 : decode cX5_addSets 73 = .ok (.iconst 1, 1) := by decide +kernel
theorem dX5_addSets_74 : decode cX5_addSets 74 = .ok (.iload_n 2, 1) := by decide +kernel
theorem dX5_addSets_75 : decode cX5_addSets 75 = .ok (.ishl, 1) := by decide +kernel
theorem dX5_addSets_76 : decode cX5_addSets 76 = .ok (.ior, 1) := by decide +kernel
theorem dX5_addSets_77 : decode cX5_addSets 77 = .ok (.iconst 1, 1) := by decide +kernel
theorem dX5_addSets_78 : decode cX5_addSets 78 = .ok (.bastore, 1) := by decide +kernel
theorem dX5_addSets_79 : decode cX5_addSets 79 = .ok (.iinc 3 1, 3) := by decide +kernel
theorem dX5_addSets_82 : decode cX5_addSets 82 = .ok (.goto (-37), 3) := by decide +kernel
theorem dX5_addSets_85 : decode cX5_addSets 85 = .ok (.iinc 2 1, 3) := by decide +kernel
theorem dX5_addSets_88 : decode cX5_addSets 88 = .ok (.goto (-86), 3) := by decide +kernel
theorem dX5_addSets_91 : decode cX5_addSets 91 = .ok (.return_, 1) := by decide +kernel
theorem dX5_findSets_0 : decode cX5_findSets 0 = .ok (.iconst 0, 1) := by decide +kernel
theorem dX5_findSets_1 : decode cX5_findSets 1 = .ok (.istore 4, 2) := by decide +kernel
theorem dX5_findSets_3 : decode cX5_findSets 3 = .ok (.iload 4, 2) := by decide +kernel
theorem dX5_findSets_5 : decode cX5_findSets 5 = .ok (.sipush 128, 3) := by decide +kernel
theorem dX5_findSets_8 : decode cX5_findSets 8 = .ok (.if_icmp .ge 27, 3) := by decide +kernel
theorem dX5_findSets_11 : decode cX5_findSets 11 = .ok (.aload_n 0, 1) := by decide +kernel
theorem dX5_findSets_12 : decode cX5_findSets 12 = .ok (.getfield 72, 3) := by decide +kernel
theorem dX5_findSets_15 : decode cX5_findSets 15 = .ok (.iload 4, 2) := by decide +kernel
theorem dX5_findSets_17 : decode cX5_findSets 17 = .ok (.iload 4, 2) := by decide +kernel
theorem dX5_findSets_19 : decode cX5_findSets 19 = .ok (.iload_n 1, 1) := by decide +kernel
theorem dX5_findSets_20 : decode cX5_findSets 20 = .ok (.if_icmp .ne 7, 3) := by decide +kernel
theorem dX5_findSets_23 : decode cX5_findSets 23 = .ok (.iconst 1, 1) := by decide +kernel
theorem dX5_findSets_24 : decode cX5_findSets 24 = .ok (.goto 4, 3) := by decide +kernel
theorem dX5_findSets_27 : decode cX5_findSets 27 = .ok (.iconst 0, 1) := by decide +kernel
theorem dX5_findSets_28 : decode cX5_findSets 28 = .ok (.bastore, 1) := by decide +kernel
theorem dX5_findSets_29 : decode cX5_findSets 29 = .ok (.iinc 4 1, 3) := by decide +kernel
theorem dX5_findSets_32 : decode cX5_findSets 32 = .ok (.goto (-29), 3) := by decide +kernel
theorem dX5_findSets_35 : decode cX5_findSets 35 = .ok (.iconst 0, 1) := by decide +kernel
theorem dX5_findSets_36 : decode cX5_findSets 36 = .ok (.istore 4, 2) := by decide +kernel
theorem dX5_findSets_38 : decode cX5_findSets 38 = .ok (.iload 4, 2) := by decide +kernel
theorem dX5_findSets_40 : decode cX5_findSets 40 = .ok (.iload_n 2, 1) := by decide +kernel
theorem dX5_findSets_41 : decode cX5_findSets 41 = .ok (.if_icmp .ge 104, 3) := by decide +kernel
theorem dX5_findSets_44 : decode cX5_findSets 44 = .ok (.iconst 0, 1) := by decide +kernel
theorem dX5_findSets_45 : decode cX5_findSets 45 = .ok (.istore 5, 2) := by decide +kernel
theorem dX5_findSets_47 : decode cX5_findSets 47 = .ok (.iload 5, 2) := by decide +kernel
theorem dX5_findSets_49 : decode cX5_findSets 49 = .ok (.sipush 128, 3) := by decide +kernel
theorem dX5_findSets_52 : decode cX5_findSets 52 = .ok (.if_icmp .ge 23, 3) := by decide +kernel
theorem dX5_findSets_55 : decode cX5_findSets 55 = .ok (.aload_n 0, 1) := by decide +kernel
theorem dX5_findSets_56 : decode cX5_findSets 56 = .ok (.getfield 75, 3) := by decide +kernel
theorem dX5_findSets_59 : decode cX5_findSets 59 = .ok (.iload 5, 2) := by decide +kernel
theorem dX5_findSets_61 : decode cX5_findSets 61 = .ok (.aload_n 0, 1) := by decide +kernel
theorem dX5_findSets_62 : decode cX5_findSets 62 = .ok (.getfield 72, 3) := by decide +kernel
theorem dX5_findSets_65 : decode cX5_findSets 65 = .ok (.iload 5, 2) := by decide +kernel
theorem dX5_findSets_67 : decode cX5_findSets 67 = .ok (.baload, 1) := by decide +kernel
theorem dX5_findSets_68 : decode cX5_findSets 68 = .ok (.bastore, 1) := by decide +kernel
theorem dX5_findSets_69 : decode cX5_findSets 69 = .ok (.iinc 5 1, 3) := by decide +kernel
theorem dX5_findSets_72 : decode cX5_findSets 72 = .ok (.goto (-25), 3) := by decide +kernel
theorem dX5_findSets_75 : decode cX5_findSets 75 = .ok (.iconst 0, 1) := by decide +kernel
theorem dX5_findSets_76 : decode cX5_findSets 76 = .ok (.istore 5, 2) := by decide +kernel
theorem dX5_findSets_78 : decode cX5_findSets 78 = .ok (.iload 5, 2) := by decide +kernel
theorem dX5_findSets_80 : decode cX5_findSets 80 = .ok (.sipush 128, 3) := by decide +kernel
theorem dX5_findSets_83 : decode cX5_findSets 83 = .ok (.if_icmp .ge 25, 3) := by decide +kernel
theorem dX5_findSets_86 : decode cX5_findSets 86 = .ok (.aload_n 0, 1) := by decide +kernel
theorem dX5_findSets_87 : decode cX5_findSets 87 = .ok (.getfield 72, 3) := by decide +kernel
theorem dX5_findSets_90 : decode cX5_findSets 90 = .ok (.iload 5, 2) := by decide +kernel
theorem dX5_findSets_92 : decode cX5_findSets 92 = .ok (.baload, 1) := by decide +kernel
theorem dX5_findSets_93 : decode cX5_findSets 93 = .ok (.ifCond .eq 9, 3) := by decide +kernel
theorem dX5_findSets_96 : decode cX5_findSets 96 = .ok (.aload_n 0, 1) := by decide +kernel
theorem dX5_findSets_97 : decode cX5_findSets 97 = .ok (.iload 5, 2) := by decide +kernel
theorem dX5_findSets_99 : decode cX5_findSets 99 = .ok (.invokevirtual 221, 3) := by decide +kernel
theorem dX5_findSets_102 : decode cX5_findSets 102 = .ok (.iinc 5 1, 3) := by decide +kernel
theorem dX5_findSets_105 : decode cX5_findSets 105 = .ok (.goto (-27), 3) := by decide +kernel
theorem dX5_findSets_108 : decode cX5_findSets 108 = .ok (.iconst 0, 1) := by decide +kernel
theorem dX5_findSets_109 : decode cX5_findSets 109 = .ok (.istore 5, 2) := by decide +kernel
theorem dX5_findSets_111 : decode cX5_findSets 111 = .ok (.iload 5, 2) := by decide +kernel
theorem dX5_findSets_113 : decode cX5_findSets 113 = .ok (.sipush 128, 3) := by decide +kernel
theorem dX5_findSets_116 : decode cX5_findSets 116 = .ok (.if_icmp .ge 23, 3) := by decide +kernel
theorem dX5_findSets_119 : decode cX5_findSets 119 = .ok (.aload_n 0, 1) := by decide +kernel
theorem dX5_findSets_120 : decode cX5_findSets 120 = .ok (.getfield 72, 3) := by decide +kernel
theorem dX5_findSets_123 : decode cX5_findSets 123 = .ok (.iload 5, 2) := by decide +kernel
theorem dX5_findSets_125 : decode cX5_findSets 125 = .ok (.aload_n 0, 1) := by decide +kernel
theorem dX5_findSets_126 : decode cX5_findSets 126 = .ok (.getfield 75, 3) := by decide +kernel
theorem dX5_findSets_129 : decode cX5_findSets 129 = .ok (.iload 5, 2) := by decide +kernel
theorem dX5_findSets_131 : decode cX5_findSets 131 = .ok (.baload, 1) := by decide +kernel
theorem dX5_findSets_132 : decode cX5_findSets 132 = .ok (.bastore, 1) := by decide +kernel
theorem dX5_findSets_133 : decode cX5_findSets 133 = .ok (.iinc 5 1, 3) := by decide +kernel
theorem dX5_findSets_136 : decode cX5_findSets 136 = .ok (.goto (-25), 3) := by decide +kernel
theorem dX5_findSets_139 : decode cX5_findSets 139 = .ok (.iinc 4 1, 3) := by decide +kernel
theorem dX5_findSets_142 : decode cX5_findSets 142 = .ok (.goto (-104), 3) := by decide +kernel
theorem dX5_findSets_145 : decode cX5_findSets 145 = .ok (.iconst 0, 1) := by decide +kernel
theorem dX5_findSets_146 : decode cX5_findSets 146 = .ok (.istore 4, 2) := by decide +kernel
theorem dX5_findSets_148 : decode cX5_findSets 148 = .ok (.iload 4, 2) := by decide +kernel
theorem dX5_findSets_150 : decode cX5_findSets 150 = .ok (.sipush 128, 3) := by decide +kernel
theorem dX5_findSets_153 : decode cX5_findSets 153 = .ok (.if_icmp .ge 56, 3) := by decide +kernel
theorem dX5_findSets_156 : decode cX5_findSets 156 = .ok (.iload_n 3, 1) := by decide +kernel
theorem dX5_findSets_157 : decode cX5_findSets 157 = .ok (.ifCond .eq 26, 3) := by decide +kernel
theorem dX5_findSets_160 : decode cX5_findSets 160 = .ok (.aload_n 0, 1) := by decide +kernel
theorem dX5_findSets_161 : decode cX5_findSets 161 = .ok (.getfield 69, 3) := by decide +kernel
theorem dX5_findSets_164 : decode cX5_findSets 164 = .ok (.sipush 128, 3) := by decide +kernel
theorem dX5_findSets_167 : decode cX5_findSets 167 = .ok (.iload_n 1, 1) := by decide +kernel
theorem dX5_findSets_168 : decode cX5_findSets 168 = .ok (.imul, 1) := by decide +kernel
theorem dX5_findSets_169 : decode cX5_findSets 169 = .ok (.iload 4, 2) := by decide +kernel
theorem dX5_findSets_171 : decode cX5_findSets 171 = .ok (.iadd, 1) := by decide +kernel
theorem dX5_findSets_172 : decode cX5_findSets 172 = .ok (.aload_n 0, 1) := by decide +kernel
theorem dX5_findSets_173 : decode cX5_findSets 173 = .ok (.getfield 72, 3) := by decide +kernel
theorem dX5_findSets_176 : decode cX5_findSets 176 = .ok (.iload 4, 2) := by decide +kernel
theorem dX5_findSets_178 : decode cX5_findSets 178 = .ok (.baload, 1) := by decide +kernel
theorem dX5_findSets_179 : decode cX5_findSets 179 = .ok (.bastore, 1) := by decide +kernel
theorem dX5_findSets_180 : decode cX5_findSets 180 = .ok (.goto 23, 3) := by decide +kernel
theorem dX5_findSets_183 : decode cX5_findSets 183 = .ok (.aload_n 0, 1) := by decide +kernel
theorem dX5_findSets_184 : decode cX5_findSets 184 = .ok (.getfield 66, 3) := by decide +kernel
theorem dX5_findSets_187 : decode cX5_findSets 187 = .ok (.sipush 128, 3) := by decide +kernel
theorem dX5_findSets_190 : decode cX5_findSets 190 = .ok (.iload_n 1, 1) := by decide +kernel
theorem dX5_findSets_191 : decode cX5_findSets 191 = .ok (.imul, 1) := by decide +kernel
theorem dX5_findSets_192 : decode cX5_findSets 192 = .ok (.iload 4, 2) := by decide +kernel
theorem dX5_findSets_194 : decode cX5_findSets 194 = .ok (.iadd, 1) := by decide +kernel
theorem dX5_findSets_195 : decode cX5_findSets 195 = .ok (.aload_n 0, 1) := by decide +kernel
theorem dX5_findSets_196 : decode cX5_findSets 196 = .ok (.getfield 72, 3) := by decide +kernel
theorem dX5_findSets_199 : decode cX5_findSets 199 = .ok (.iload 4, 2) := by decide +kernel
theorem dX5_findSets_201 : decode cX5_findSets 201 = .ok (.baload, 1) := by decide +kernel
theorem dX5_findSets_202 : decode cX5_findSets 202 = .ok (.bastore, 1) := by decide +kernel
theorem dX5_findSets_203 : decode cX5_findSets 203 = .ok (.iinc 4 1, 3) := by decide +kernel
theorem dX5_findSets_206 : decode cX5_findSets 206 = .ok (.goto (-58), 3) := by decide +kernel
theorem dX5_findSets_209 : decode cX5_findSets 209 = .ok (.return_, 1) := by decide +kernel
theorem dX5_askFor_0 : decode cX5_askFor 0 = .ok (.iconst 0, 1) := by decide +kernel
theorem dX5_askFor_1 : decode cX5_askFor 1 = .ok (.istore_n 2, 1) := by decide +kernel
theorem dX5_askFor_2 : decode cX5_askFor 2 = .ok (.iload_n 2, 1) := by decide +kernel
theorem dX5_askFor_3 : decode cX5_askFor 3 = .ok (.sipush 128, 3) := by decide +kernel
theorem dX5_askFor_6 : decode cX5_askFor 6 = .ok (.if_icmp .ge 35, 3) := by decide +kernel
theorem dX5_askFor_9 : decode cX5_askFor 9 = .ok (.aload_n 0, 1) := by decide +kernel
theorem dX5_askFor_10 : decode cX5_askFor 10 = .ok (.getfield 81, 3) := by decide +kernel
theorem dX5_askFor_13 : decode cX5_askFor 13 = .ok (.iload_n 2, 1) := by decide +kernel
theorem dX5_askFor_14 : decode cX5_askFor 14 = .ok (.iload_n 2, 1) := by decide +kernel
theorem dX5_askFor_15 : decode cX5_askFor 15 = .ok (.iload_n 1, 1) := by decide +kernel
theorem dX5_askFor_16 : decode cX5_askFor 16 = .ok (.ishr, 1) := by decide +kernel
theorem dX5_askFor_17 : decode cX5_askFor 17 = .ok (.iconst 1, 1) := by decide +kernel
theorem dX5_askFor_18 : decode cX5_askFor 18 = .ok (.iand, 1) := by decide +kernel
theorem dX5_askFor_19 : decode cX5_askFor 19 = .ok (.iconst 1, 1) := by decide +kernel
theorem dX5_askFor_20 : decode cX5_askFor 20 = .ok (.if_icmp .ne 12, 3) := by decide +kernel
theorem dX5_askFor_23 : decode cX5_askFor 23 = .ok (.aload_n 0, 1) := by decide +kernel
theorem dX5_askFor_24 : decode cX5_askFor 24 = .ok (.getfield 78, 3) := by decide +kernel
theorem dX5_askFor_27 : decode cX5_askFor 27 = .ok (.iload_n 2, 1) := by decide +kernel
theorem dX5_askFor_28 : decode cX5_askFor 28 = .ok (.iaload, 1) := by decide +kernel
theorem dX5_askFor_29 : decode cX5_askFor 29 = .ok (.goto 5, 3) := by decide +kernel
theorem dX5_askFor_32 : decode cX5_askFor 32 = .ok (.ldc 224, 2) := by decide +kernel
theorem dX5_askFor_34 : decode cX5_askFor 34 = .ok (.iastore, 1) := by decide +kernel
theorem dX5_askFor_35 : decode cX5_askFor 35 = .ok (.iinc 2 1, 3) := by decide +kernel
theorem dX5_askFor_38 : decode cX5_askFor 38 = .ok (.goto (-36), 3) := by decide +kernel
theorem dX5_askFor_41 : decode cX5_askFor 41 = .ok (.iconst 1, 1) := by decide +kernel
theorem dX5_askFor_42 : decode cX5_askFor 42 = .ok (.istore_n 2, 1) := by decide +kernel
theorem dX5_askFor_43 : decode cX5_askFor 43 = .ok (.iload_n 2, 1) := by decide +kernel
theorem dX5_askFor_44 : decode cX5_askFor 44 = .ok (.ifCond .eq 194, 3) := by decide +kernel
theorem dX5_askFor_47 : decode cX5_askFor 47 = .ok (.iconst 0, 1) := by decide +kernel
theorem dX5_askFor_48 : decode cX5_askFor 48 = .ok (.istore_n 2, 1) := by decide +kernel
theorem dX5_askFor_49 : decode cX5_askFor 49 = .ok (.iconst 0, 1) := by decide +kernel
theorem dX5_askFor_50 : decode cX5_askFor 50 = .ok (.istore_n 3, 1) := by decide +kernel
theorem dX5_askFor_51 : decode cX5_askFor 51 = .ok (.iload_n 3, 1) := by decide +kernel
theorem dX5_askFor_52 : decode cX5_askFor 52 = .ok (.sipush 128, 3) := by decide +kernel
theorem dX5_askFor_55 : decode cX5_askFor 55 = .ok (.if_icmp .ge 180, 3) := by decide +kernel
theorem dX5_askFor_58 : decode cX5_askFor 58 = .ok (.iconst 0, 1) := by decide +kernel
theorem dX5_askFor_59 : decode cX5_askFor 59 = .ok (.istore 4, 2) := by decide +kernel
theorem dX5_askFor_61 : decode cX5_askFor 61 = .ok (.iload 4, 2) := by decide +kernel
theorem dX5_askFor_63 : decode cX5_askFor 63 = .ok (.sipush 128, 3) := by decide +kernel
theorem dX5_askFor_66 : decode cX5_askFor 66 = .ok (.if_icmp .ge 163, 3) := by decide +kernel
theorem dX5_askFor_69 : decode cX5_askFor 69 = .ok (.iload_n 3, 1) := by decide +kernel
theorem dX5_askFor_70 : decode cX5_askFor 70 = .ok (.iload_n 1, 1) := by decide +kernel
theorem dX5_askFor_71 : decode cX5_askFor 71 = .ok (.ishr, 1) := by decide +kernel
theorem dX5_askFor_72 : decode cX5_askFor 72 = .ok (.iconst 1, 1) := by decide +kernel
theorem dX5_askFor_73 : decode cX5_askFor 73 = .ok (.iand, 1) := by decide +kernel
theorem dX5_askFor_74 : decode cX5_askFor 74 = .ok (.ifCond .ne 155, 3) := by decide +kernel
theorem dX5_askFor_77 : decode cX5_askFor 77 = .ok (.aload_n 0, 1) := by decide +kernel
theorem dX5_askFor_78 : decode cX5_askFor 78 = .ok (.getfield 78, 3) := by decide +kernel
theorem dX5_askFor_81 : decode cX5_askFor 81 = .ok (.iload_n 3, 1) := by decide +kernel
theorem dX5_askFor_82 : decode cX5_askFor 82 = .ok (.iaload, 1) := by decide +kernel
theorem dX5_askFor_83 : decode cX5_askFor 83 = .ok (.ldc 224, 2) := by decide +kernel
theorem dX5_askFor_85 : decode cX5_askFor 85 = .ok (.if_icmp .ge 144, 3) := by decide +kernel
theorem dX5_askFor_88 : decode cX5_askFor 88 = .ok (.aload_n 0, 1) := by decide +kernel
theorem dX5_askFor_89 : decode cX5_askFor 89 = .ok (.getfield 78, 3) := by decide +kernel
theorem dX5_askFor_92 : decode cX5_askFor 92 = .ok (.iload_n 3, 1) := by decide +kernel
theorem dX5_askFor_93 : decode cX5_askFor 93 = .ok (.iaload, 1) := by decide +kernel
theorem dX5_askFor_94 : decode cX5_askFor 94 = .ok (.iconst 1, 1) := by decide +kernel
theorem dX5_askFor_95 : decode cX5_askFor 95 = .ok (.iadd, 1) := by decide +kernel
theorem dX5_askFor_96 : decode cX5_askFor 96 = .ok (.istore 5, 2) := by decide +kernel
theorem dX5_askFor_98 : decode cX5_askFor 98 = .ok (.aload_n 0, 1) := by decide +kernel
theorem dX5_askFor_99 : decode cX5_askFor 99 = .ok (.getfield 66, 3) := by decide +kernel
theorem dX5_askFor_102 : decode cX5_askFor 102 = .ok (.sipush 128, 3) := by decide +kernel
theorem dX5_askFor_105 : decode cX5_askFor 105 = .ok (.iload_n 3, 1) := by decide +kernel
theorem dX5_askFor_106 : decode cX5_askFor 106 = .ok (.imul, 1) := by decide +kernel
theorem dX5_askFor_107 : decode cX5_askFor 107 = .ok (.iload 4, 2) := by decide +kernel
theorem dX5_askFor_109 : decode cX5_askFor 109 = .ok (.iadd, 1) := by decide +kernel
theorem dX5_askFor_110 : decode cX5_askFor 110 = .ok (.baload, 1) := by decide +kernel
theorem dX5_askFor_111 : decode cX5_askFor 111 = .ok (.ifCond .eq 35, 3) := by decide +kernel
theorem dX5_askFor_114 : decode cX5_askFor 114 = .ok (.iload 5, 2) := by decide +kernel
theorem dX5_askFor_116 : decode cX5_askFor 116 = .ok (.aload_n 0, 1) := by decide +kernel
theorem dX5_askFor_117 : decode cX5_askFor 117 = .ok (.getfield 78, 3) := by decide +kernel
theorem dX5_askFor_120 : decode cX5_askFor 120 = .ok (.iload 4, 2) := by decide +kernel
theorem dX5_askFor_122 : decode cX5_askFor 122 = .ok (.iaload, 1) := by decide +kernel
theorem dX5_askFor_123 : decode cX5_askFor 123 = .ok (.if_icmp .ge 23, 3) := by decide +kernel
theorem dX5_askFor_126 : decode cX5_askFor 126 = .ok (.iload 4, 2) := by decide +kernel
theorem dX5_askFor_128 : decode cX5_askFor 128 = .ok (.iload_n 1, 1) := by decide +kernel
theorem dX5_askFor_129 : decode cX5_askFor 129 = .ok (.ishr, 1) := by decide +kernel
theorem dX5_askFor_130 : decode cX5_askFor 130 = .ok (.iconst 1, 1) := by decide +kernel
theorem dX5_askFor_131 : decode cX5_askFor 131 = .ok (.iand, 1) := by decide +kernel
theorem dX5_askFor_132 : decode cX5_askFor 132 = .ok (.ifCond .ne 14, 3) := by decide +kernel
theorem dX5_askFor_135 : decode cX5_askFor 135 = .ok (.aload_n 0, 1) := by decide +kernel
theorem dX5_askFor_136 : decode cX5_askFor 136 = .ok (.getfield 78, 3) := by decide +kernel
theorem dX5_askFor_139 : decode cX5_askFor 139 = .ok (.iload 4, 2) := by decide +kernel
theorem dX5_askFor_141 : decode cX5_askFor 141 = .ok (.iload 5, 2) := by decide +kernel
theorem dX5_askFor_143 : decode cX5_askFor 143 = .ok (.iastore, 1) := by decide +kernel
theorem dX5_askFor_144 : decode cX5_askFor 144 = .ok (.iconst 1, 1) := by decide +kernel
theorem dX5_askFor_145 : decode cX5_askFor 145 = .ok (.istore_n 2, 1) := by decide +kernel
theorem dX5_askFor_146 : decode cX5_askFor 146 = .ok (.aload_n 0, 1) := by decide +kernel
theorem dX5_askFor_147 : decode cX5_askFor 147 = .ok (.getfield 66, 3) := by decide +kernel
theorem dX5_askFor_150 : decode cX5_askFor 150 = .ok (.sipush 128, 3) := by decide +kernel
theorem dX5_askFor_153 : decode cX5_askFor 153 = .ok (.iload_n 3, 1) := by decide +kernel
theorem dX5_askFor_154 : decode cX5_askFor 154 = .ok (.imul, 1) := by decide +kernel
theorem dX5_askFor_155 : decode cX5_askFor 155 = .ok (.iload 4, 2) := by decide +kernel
theorem dX5_askFor_157 : decode cX5_askFor 157 = .ok (.iadd, 1) := by decide +kernel
theorem dX5_askFor_158 : decode cX5_askFor 158 = .ok (.baload, 1) := by decide +kernel
theorem dX5_askFor_159 : decode cX5_askFor 159 = .ok (.ifCond .eq 25, 3) := by decide +kernel
theorem dX5_askFor_162 : decode cX5_askFor 162 = .ok (.iload 4, 2) := by decide +kernel
theorem dX5_askFor_164 : decode cX5_askFor 164 = .ok (.iload_n 1, 1) := by decide +kernel
theorem dX5_askFor_165 : decode cX5_askFor 165 = .ok (.ishr, 1) := by decide +kernel
theorem dX5_askFor_166 : decode cX5_askFor 166 = .ok (.iconst 1, 1) := by decide +kernel
theorem dX5_askFor_167 : decode cX5_askFor 167 = .ok (.iand, 1) := by decide +kernel
theorem dX5_askFor_168 : decode cX5_askFor 168 = .ok (.iconst 1, 1) := by decide +kernel
theorem dX5_askFor_169 : decode cX5_askFor 169 = .ok (.if_icmp .ne 15, 3) := by decide +kernel
theorem dX5_askFor_172 : decode cX5_askFor 172 = .ok (.iload 5, 2) := by decide +kernel
theorem dX5_askFor_174 : decode cX5_askFor 174 = .ok (.aload_n 0, 1) := by decide +kernel
theorem dX5_askFor_175 : decode cX5_askFor 175 = .ok (.getfield 81, 3) := by decide +kernel
theorem dX5_askFor_178 : decode cX5_askFor 178 = .ok (.iload 4, 2) := by decide +kernel
theorem dX5_askFor_180 : decode cX5_askFor 180 = .ok (.iaload, 1) := by decide +kernel
theorem dX5_askFor_181 : decode cX5_askFor 181 = .ok (.if_icmp .lt 31, 3) := by decide +kernel
theorem dX5_askFor_184 : decode cX5_askFor 184 = .ok (.aload_n 0, 1) := by decide +kernel
theorem dX5_askFor_185 : decode cX5_askFor 185 = .ok (.getfield 69, 3) := by decide +kernel
theorem dX5_askFor_188 : decode cX5_askFor 188 = .ok (.sipush 128, 3) := by decide +kernel
theorem dX5_askFor_191 : decode cX5_askFor 191 = .ok (.iload_n 3, 1) := by decide +kernel
theorem dX5_askFor_192 : decode cX5_askFor 192 = .ok (.imul, 1) := by decide +kernel
theorem dX5_askFor_193 : decode cX5_askFor 193 = .ok (.iload 4, 2) := by decide +kernel
theorem dX5_askFor_195 : decode cX5_askFor 195 = .ok (.iadd, 1) := by decide +kernel
theorem dX5_askFor_196 : decode cX5_askFor 196 = .ok (.baload, 1) := by decide +kernel
theorem dX5_askFor_197 : decode cX5_askFor 197 = .ok (.ifCond .eq 26, 3) := by decide +kernel
theorem dX5_askFor_200 : decode cX5_askFor 200 = .ok (.iload 5, 2) := by decide +kernel
theorem dX5_askFor_202 : decode cX5_askFor 202 = .ok (.aload_n 0, 1) := by decide +kernel
theorem dX5_askFor_203 : decode cX5_askFor 203 = .ok (.getfield 81, 3) := by decide +kernel
theorem dX5_askFor_206 : decode cX5_askFor 206 = .ok (.iload 4, 2) := by decide +kernel
theorem dX5_askFor_208 : decode cX5_askFor 208 = .ok (.iaload, 1) := by decide +kernel
theorem dX5_askFor_209 : decode cX5_askFor 209 = .ok (.if_icmp .ge 14, 3) := by decide +kernel
theorem dX5_askFor_212 : decode cX5_askFor 212 = .ok (.aload_n 0, 1) := by decide +kernel
theorem dX5_askFor_213 : decode cX5_askFor 213 = .ok (.getfield 81, 3) := by decide +kernel
theorem dX5_askFor_216 : decode cX5_askFor 216 = .ok (.iload 4, 2) := by decide +kernel
theorem dX5_askFor_218 : decode cX5_askFor 218 = .ok (.iload 5, 2) := by decide +kernel
theorem dX5_askFor_220 : decode cX5_askFor 220 = .ok (.iastore, 1) := by decide +kernel
theorem dX5_askFor_221 : decode cX5_askFor 221 = .ok (.iconst 1, 1) := by decide +kernel
theorem dX5_askFor_222 : decode cX5_askFor 222 = .ok (.istore_n 2, 1) := by decide +kernel
theorem dX5_askFor_223 : decode cX5_askFor 223 = .ok (.iinc 4 1, 3) := by decide +kernel
theorem dX5_askFor_226 : decode cX5_askFor 226 = .ok (.goto (-165), 3) := by decide +kernel
theorem dX5_askFor_229 : decode cX5_askFor 229 = .ok (.iinc 3 1, 3) := by decide +kernel
theorem dX5_askFor_232 : decode cX5_askFor 232 = .ok (.goto (-181), 3) := by decide +kernel
theorem dX5_askFor_235 : decode cX5_askFor 235 = .ok (.goto (-192), 3) := by decide +kernel
theorem dX5_askFor_238 : decode cX5_askFor 238 = .ok (.return_, 1) := by decide +kernel
theorem dX5_indexOf_0 : decode cX5_indexOf 0 = .ok (.iconst 0, 1) := by decide +kernel
theorem dX5_indexOf_1 : decode cX5_indexOf 1 = .ok (.istore_n 2, 1) := by decide +kernel
theorem dX5_indexOf_2 : decode cX5_indexOf 2 = .ok (.iload_n 2, 1) := by decide +kernel
theorem dX5_indexOf_3 : decode cX5_indexOf 3 = .ok (.aload_n 0, 1) := by decide +kernel
theorem dX5_indexOf_4 : decode cX5_indexOf 4 = .ok (.getfield 215, 3) := by decide +kernel
theorem dX5_indexOf_7 : decode cX5_indexOf 7 = .ok (.if_icmp .ge 19, 3) := by decide +kernel
theorem dX5_indexOf_10 : decode cX5_indexOf 10 = .ok (.aload_n 0, 1) := by decide +kernel
theorem dX5_indexOf_11 : decode cX5_indexOf 11 = .ok (.getfield 63, 3) := by decide +kernel
theorem dX5_indexOf_14 : decode cX5_indexOf 14 = .ok (.iload_n 2, 1) := by decide +kernel
theorem dX5_indexOf_15 : decode cX5_indexOf 15 = .ok (.iaload, 1) := by decide +kernel
theorem dX5_indexOf_16 : decode cX5_indexOf 16 = .ok (.iload_n 1, 1) := by decide +kernel
theorem dX5_indexOf_17 : decode cX5_indexOf 17 = .ok (.if_icmp .eq 9, 3) := by decide +kernel
end
section
theorem dX5_indexOf_20 : decode cX5_indexOf 20 = .ok (.iinc 2 1, 3) := by decide +kernel
theorem dX5_indexOf_23 : decode cX5_indexOf 23 = .ok (.goto (-21), 3) := by decide +kernel
theorem dX5_indexOf_26 : decode cX5_indexOf 26 = .ok (.iload_n 2, 1) := by decide +kernel
theorem dX5_indexOf_27 : decode cX5_indexOf 27 = .ok (.ireturn, 1) := by decide +kernel
theorem dX5_foresight_0 : decode cX5_foresight 0 = .ok (.iload_n 1, 1) := by decide +kernel
theorem dX5_foresight_1 : decode cX5_foresight 1 = .ok (.i2l, 1) := by decide +kernel
theorem dX5_foresight_2 : decode cX5_foresight 2 = .ok (.lconst 0, 1) := by decide +kernel
theorem dX5_foresight_3 : decode cX5_foresight 3 = .ok (.ldc2_w 225, 3) := by decide +kernel
theorem dX5_foresight_6 : decode cX5_foresight 6 = .ok (.invokestatic 96, 3) := by decide +kernel
theorem dX5_foresight_9 : decode cX5_foresight 9 = .ok (.ifCond .ne 6, 3) := by decide +kernel
theorem dX5_foresight_12 : decode cX5_foresight 12 = .ok (.bipush (-102), 2) := by decide +kernel
theorem dX5_foresight_14 : decode cX5_foresight 14 = .ok (.ireturn, 1) := by decide +kernel
theorem dX5_foresight_15 : decode cX5_foresight 15 = .ok (.aload_n 0, 1) := by decide +kernel
theorem dX5_foresight_16 : decode cX5_foresight 16 = .ok (.getfield 126, 3) := by decide +kernel
theorem dX5_foresight_19 : decode cX5_foresight 19 = .ok (.sipush 200, 3) := by decide +kernel
theorem dX5_foresight_22 : decode cX5_foresight 22 = .ok (.if_icmp .ge 10, 3) := by decide +kernel
theorem dX5_foresight_25 : decode cX5_foresight 25 = .ok (.aload_n 0, 1) := by decide +kernel
theorem dX5_foresight_26 : decode cX5_foresight 26 = .ok (.getfield 126, 3) := by decide +kernel
theorem dX5_foresight_29 : decode cX5_foresight 29 = .ok (.goto 6, 3) := by decide +kernel
theorem dX5_foresight_32 : decode cX5_foresight 32 = .ok (.sipush 200, 3) := by decide +kernel
theorem dX5_foresight_35 : decode cX5_foresight 35 = .ok (.istore_n 2, 1) := by decide +kernel
theorem dX5_foresight_36 : decode cX5_foresight 36 = .ok (.iload_n 1, 1) := by decide +kernel
theorem dX5_foresight_37 : decode cX5_foresight 37 = .ok (.iload_n 2, 1) := by decide +kernel
theorem dX5_foresight_38 : decode cX5_foresight 38 = .ok (.if_icmp .ge 7, 3) := by decide +kernel
theorem dX5_foresight_41 : decode cX5_foresight 41 = .ok (.iload_n 1, 1) := by decide +kernel
theorem dX5_foresight_42 : decode cX5_foresight 42 = .ok (.goto 4, 3) := by decide +kernel
theorem dX5_foresight_45 : decode cX5_foresight 45 = .ok (.iload_n 2, 1) := by decide +kernel
theorem dX5_foresight_46 : decode cX5_foresight 46 = .ok (.istore_n 3, 1) := by decide +kernel
theorem dX5_foresight_47 : decode cX5_foresight 47 = .ok (.aload_n 0, 1) := by decide +kernel
theorem dX5_foresight_48 : decode cX5_foresight 48 = .ok (.iconst 0, 1) := by decide +kernel
theorem dX5_foresight_49 : decode cX5_foresight 49 = .ok (.putfield 215, 3) := by decide +kernel
theorem dX5_foresight_52 : decode cX5_foresight 52 = .ok (.aload_n 0, 1) := by decide +kernel
theorem dX5_foresight_53 : decode cX5_foresight 53 = .ok (.getfield 126, 3) := by decide +kernel
theorem dX5_foresight_56 : decode cX5_foresight 56 = .ok (.iload_n 3, 1) := by decide +kernel
theorem dX5_foresight_57 : decode cX5_foresight 57 = .ok (.isub, 1) := by decide +kernel
theorem dX5_foresight_58 : decode cX5_foresight 58 = .ok (.istore 4, 2) := by decide +kernel
theorem dX5_foresight_60 : decode cX5_foresight 60 = .ok (.iload 4, 2) := by decide +kernel
theorem dX5_foresight_62 : decode cX5_foresight 62 = .ok (.aload_n 0, 1) := by decide +kernel
theorem dX5_foresight_63 : decode cX5_foresight 63 = .ok (.getfield 126, 3) := by decide +kernel
theorem dX5_foresight_66 : decode cX5_foresight 66 = .ok (.if_icmp .ge 68, 3) := by decide +kernel
theorem dX5_foresight_69 : decode cX5_foresight 69 = .ok (.aload_n 0, 1) := by decide +kernel
theorem dX5_foresight_70 : decode cX5_foresight 70 = .ok (.getfield 56, 3) := by decide +kernel
theorem dX5_foresight_73 : decode cX5_foresight 73 = .ok (.iload 4, 2) := by decide +kernel
theorem dX5_foresight_75 : decode cX5_foresight 75 = .ok (.sipush 200, 3) := by decide +kernel
theorem dX5_foresight_78 : decode cX5_foresight 78 = .ok (.irem, 1) := by decide +kernel
theorem dX5_foresight_79 : decode cX5_foresight 79 = .ok (.iaload, 1) := by decide +kernel
theorem dX5_foresight_80 : decode cX5_foresight 80 = .ok (.istore 5, 2) := by decide +kernel
theorem dX5_foresight_82 : decode cX5_foresight 82 = .ok (.aload_n 0, 1) := by decide +kernel
theorem dX5_foresight_83 : decode cX5_foresight 83 = .ok (.iload 5, 2) := by decide +kernel
theorem dX5_foresight_85 : decode cX5_foresight 85 = .ok (.invokevirtual 227, 3) := by decide +kernel
theorem dX5_foresight_88 : decode cX5_foresight 88 = .ok (.aload_n 0, 1) := by decide +kernel
theorem dX5_foresight_89 : decode cX5_foresight 89 = .ok (.getfield 215, 3) := by decide +kernel
theorem dX5_foresight_92 : decode cX5_foresight 92 = .ok (.if_icmp .ne 36, 3) := by decide +kernel
theorem dX5_foresight_95 : decode cX5_foresight 95 = .ok (.aload_n 0, 1) := by decide +kernel
theorem dX5_foresight_96 : decode cX5_foresight 96 = .ok (.getfield 215, 3) := by decide +kernel
theorem dX5_foresight_99 : decode cX5_foresight 99 = .ok (.bipush 7, 2) := by decide +kernel
theorem dX5_foresight_101 : decode cX5_foresight 101 = .ok (.if_icmp .ne 6, 3) := by decide +kernel
theorem dX5_foresight_104 : decode cX5_foresight 104 = .ok (.bipush (-103), 2) := by decide +kernel
theorem dX5_foresight_106 : decode cX5_foresight 106 = .ok (.ireturn, 1) := by decide +kernel
theorem dX5_foresight_107 : decode cX5_foresight 107 = .ok (.aload_n 0, 1) := by decide +kernel
theorem dX5_foresight_108 : decode cX5_foresight 108 = .ok (.getfield 63, 3) := by decide +kernel
theorem dX5_foresight_111 : decode cX5_foresight 111 = .ok (.aload_n 0, 1) := by decide +kernel
theorem dX5_foresight_112 : decode cX5_foresight 112 = .ok (.getfield 215, 3) := by decide +kernel
theorem dX5_foresight_115 : decode cX5_foresight 115 = .ok (.iload 5, 2) := by decide +kernel
theorem dX5_foresight_117 : decode cX5_foresight 117 = .ok (.iastore, 1) := by decide +kernel
theorem dX5_foresight_118 : decode cX5_foresight 118 = .ok (.aload_n 0, 1) := by decide +kernel
theorem dX5_foresight_119 : decode cX5_foresight 119 = .ok (.dup, 1) := by decide +kernel
theorem dX5_foresight_120 : decode cX5_foresight 120 = .ok (.getfield 215, 3) := by decide +kernel
theorem dX5_foresight_123 : decode cX5_foresight 123 = .ok (.iconst 1, 1) := by decide +kernel
theorem dX5_foresight_124 : decode cX5_foresight 124 = .ok (.iadd, 1) := by decide +kernel
theorem dX5_foresight_125 : decode cX5_foresight 125 = .ok (.putfield 215, 3) := by decide +kernel
theorem dX5_foresight_128 : decode cX5_foresight 128 = .ok (.iinc 4 1, 3) := by decide +kernel
theorem dX5_foresight_131 : decode cX5_foresight 131 = .ok (.goto (-71), 3) := by decide +kernel
theorem dX5_foresight_134 : decode cX5_foresight 134 = .ok (.iconst 0, 1) := by decide +kernel
theorem dX5_foresight_135 : decode cX5_foresight 135 = .ok (.istore 4, 2) := by decide +kernel
theorem dX5_foresight_137 : decode cX5_foresight 137 = .ok (.iload 4, 2) := by decide +kernel
theorem dX5_foresight_139 : decode cX5_foresight 139 = .ok (.sipush 128, 3) := by decide +kernel
theorem dX5_foresight_142 : decode cX5_foresight 142 = .ok (.if_icmp .ge 51, 3) := by decide +kernel
theorem dX5_foresight_145 : decode cX5_foresight 145 = .ok (.aload_n 0, 1) := by decide +kernel
theorem dX5_foresight_146 : decode cX5_foresight 146 = .ok (.iload 4, 2) := by decide +kernel
theorem dX5_foresight_148 : decode cX5_foresight 148 = .ok (.aload_n 0, 1) := by decide +kernel
theorem dX5_foresight_149 : decode cX5_foresight 149 = .ok (.getfield 105, 3) := by decide +kernel
theorem dX5_foresight_152 : decode cX5_foresight 152 = .ok (.iconst 0, 1) := by decide +kernel
theorem dX5_foresight_153 : decode cX5_foresight 153 = .ok (.invokevirtual 230, 3) := by decide +kernel
theorem dX5_foresight_156 : decode cX5_foresight 156 = .ok (.aload_n 0, 1) := by decide +kernel
theorem dX5_foresight_157 : decode cX5_foresight 157 = .ok (.iload 4, 2) := by decide +kernel
theorem dX5_foresight_159 : decode cX5_foresight 159 = .ok (.aload_n 0, 1) := by decide +kernel
theorem dX5_foresight_160 : decode cX5_foresight 160 = .ok (.getfield 105, 3) := by decide +kernel
theorem dX5_foresight_163 : decode cX5_foresight 163 = .ok (.iconst 1, 1) := by decide +kernel
theorem dX5_foresight_164 : decode cX5_foresight 164 = .ok (.isub, 1) := by decide +kernel
theorem dX5_foresight_165 : decode cX5_foresight 165 = .ok (.iconst 1, 1) := by decide +kernel
theorem dX5_foresight_166 : decode cX5_foresight 166 = .ok (.invokevirtual 230, 3) := by decide +kernel
theorem dX5_foresight_169 : decode cX5_foresight 169 = .ok (.aload_n 0, 1) := by decide +kernel
theorem dX5_foresight_170 : decode cX5_foresight 170 = .ok (.getfield 78, 3) := by decide +kernel
theorem dX5_foresight_173 : decode cX5_foresight 173 = .ok (.iload 4, 2) := by decide +kernel
theorem dX5_foresight_175 : decode cX5_foresight 175 = .ok (.iload 4, 2) := by decide +kernel
theorem dX5_foresight_177 : decode cX5_foresight 177 = .ok (.ifCond .ne 7, 3) := by decide +kernel
theorem dX5_foresight_180 : decode cX5_foresight 180 = .ok (.iconst 0, 1) := by decide +kernel
theorem dX5_foresight_181 : decode cX5_foresight 181 = .ok (.goto 5, 3) := by decide +kernel
theorem dX5_foresight_184 : decode cX5_foresight 184 = .ok (.ldc 224, 2) := by decide +kernel
theorem dX5_foresight_186 : decode cX5_foresight 186 = .ok (.iastore, 1) := by decide +kernel
theorem dX5_foresight_187 : decode cX5_foresight 187 = .ok (.iinc 4 1, 3) := by decide +kernel
theorem dX5_foresight_190 : decode cX5_foresight 190 = .ok (.goto (-53), 3) := by decide +kernel
theorem dX5_foresight_193 : decode cX5_foresight 193 = .ok (.iconst 0, 1) := by decide +kernel
theorem dX5_foresight_194 : decode cX5_foresight 194 = .ok (.istore 4, 2) := by decide +kernel
theorem dX5_foresight_196 : decode cX5_foresight 196 = .ok (.aload_n 0, 1) := by decide +kernel
theorem dX5_foresight_197 : decode cX5_foresight 197 = .ok (.getfield 126, 3) := by decide +kernel
theorem dX5_foresight_200 : decode cX5_foresight 200 = .ok (.iload_n 3, 1) := by decide +kernel
theorem dX5_foresight_201 : decode cX5_foresight 201 = .ok (.isub, 1) := by decide +kernel
theorem dX5_foresight_202 : decode cX5_foresight 202 = .ok (.istore 5, 2) := by decide +kernel
theorem dX5_foresight_204 : decode cX5_foresight 204 = .ok (.iload 5, 2) := by decide +kernel
theorem dX5_foresight_206 : decode cX5_foresight 206 = .ok (.aload_n 0, 1) := by decide +kernel
theorem dX5_foresight_207 : decode cX5_foresight 207 = .ok (.getfield 126, 3) := by decide +kernel
theorem dX5_foresight_210 : decode cX5_foresight 210 = .ok (.if_icmp .ge 219, 3) := by decide +kernel
theorem dX5_foresight_213 : decode cX5_foresight 213 = .ok (.aload_n 0, 1) := by decide +kernel
theorem dX5_foresight_214 : decode cX5_foresight 214 = .ok (.aload_n 0, 1) := by decide +kernel
theorem dX5_foresight_215 : decode cX5_foresight 215 = .ok (.aload_n 0, 1) := by decide +kernel
theorem dX5_foresight_216 : decode cX5_foresight 216 = .ok (.getfield 56, 3) := by decide +kernel
theorem dX5_foresight_219 : decode cX5_foresight 219 = .ok (.iload 5, 2) := by decide +kernel
theorem dX5_foresight_221 : decode cX5_foresight 221 = .ok (.sipush 200, 3) := by decide +kernel
theorem dX5_foresight_224 : decode cX5_foresight 224 = .ok (.irem, 1) := by decide +kernel
theorem dX5_foresight_225 : decode cX5_foresight 225 = .ok (.iaload, 1) := by decide +kernel
theorem dX5_foresight_226 : decode cX5_foresight 226 = .ok (.invokevirtual 227, 3) := by decide +kernel
theorem dX5_foresight_229 : decode cX5_foresight 229 = .ok (.invokevirtual 233, 3) := by decide +kernel
theorem dX5_foresight_232 : decode cX5_foresight 232 = .ok (.ldc 224, 2) := by decide +kernel
theorem dX5_foresight_234 : decode cX5_foresight 234 = .ok (.istore 4, 2) := by decide +kernel
theorem dX5_foresight_236 : decode cX5_foresight 236 = .ok (.iconst 0, 1) := by decide +kernel
theorem dX5_foresight_237 : decode cX5_foresight 237 = .ok (.istore 6, 2) := by decide +kernel
theorem dX5_foresight_239 : decode cX5_foresight 239 = .ok (.iload 6, 2) := by decide +kernel
theorem dX5_foresight_241 : decode cX5_foresight 241 = .ok (.sipush 128, 3) := by decide +kernel
theorem dX5_foresight_244 : decode cX5_foresight 244 = .ok (.if_icmp .ge 44, 3) := by decide +kernel
theorem dX5_foresight_247 : decode cX5_foresight 247 = .ok (.aload_n 0, 1) := by decide +kernel
theorem dX5_foresight_248 : decode cX5_foresight 248 = .ok (.getfield 78, 3) := by decide +kernel
theorem dX5_foresight_251 : decode cX5_foresight 251 = .ok (.iload 6, 2) := by decide +kernel
theorem dX5_foresight_253 : decode cX5_foresight 253 = .ok (.ldc 224, 2) := by decide +kernel
theorem dX5_foresight_255 : decode cX5_foresight 255 = .ok (.iastore, 1) := by decide +kernel
theorem dX5_foresight_256 : decode cX5_foresight 256 = .ok (.aload_n 0, 1) := by decide +kernel
theorem dX5_foresight_257 : decode cX5_foresight 257 = .ok (.getfield 81, 3) := by decide +kernel
theorem dX5_foresight_260 : decode cX5_foresight 260 = .ok (.iload 6, 2) := by decide +kernel
theorem dX5_foresight_262 : decode cX5_foresight 262 = .ok (.iaload, 1) := by decide +kernel
theorem dX5_foresight_263 : decode cX5_foresight 263 = .ok (.iload 4, 2) := by decide +kernel
theorem dX5_foresight_265 : decode cX5_foresight 265 = .ok (.if_icmp .ge 13, 3) := by decide +kernel
theorem dX5_foresight_268 : decode cX5_foresight 268 = .ok (.aload_n 0, 1) := by decide +kernel
theorem dX5_foresight_269 : decode cX5_foresight 269 = .ok (.getfield 81, 3) := by decide +kernel
theorem dX5_foresight_272 : decode cX5_foresight 272 = .ok (.iload 6, 2) := by decide +kernel
theorem dX5_foresight_274 : decode cX5_foresight 274 = .ok (.iaload, 1) := by decide +kernel
theorem dX5_foresight_275 : decode cX5_foresight 275 = .ok (.goto 5, 3) := by decide +kernel
theorem dX5_foresight_278 : decode cX5_foresight 278 = .ok (.iload 4, 2) := by decide +kernel
theorem dX5_foresight_280 : decode cX5_foresight 280 = .ok (.istore 4, 2) := by decide +kernel
theorem dX5_foresight_282 : decode cX5_foresight 282 = .ok (.iinc 6 1, 3) := by decide +kernel
theorem dX5_foresight_285 : decode cX5_foresight 285 = .ok (.goto (-46), 3) := by decide +kernel
theorem dX5_foresight_288 : decode cX5_foresight 288 = .ok (.iload 5, 2) := by decide +kernel
theorem dX5_foresight_290 : decode cX5_foresight 290 = .ok (.iconst 1, 1) := by decide +kernel
theorem dX5_foresight_291 : decode cX5_foresight 291 = .ok (.iadd, 1) := by decide +kernel
theorem dX5_foresight_292 : decode cX5_foresight 292 = .ok (.aload_n 0, 1) := by decide +kernel
theorem dX5_foresight_293 : decode cX5_foresight 293 = .ok (.getfield 108, 3) := by decide +kernel
theorem dX5_foresight_296 : decode cX5_foresight 296 = .ok (.irem, 1) := by decide +kernel
theorem dX5_foresight_297 : decode cX5_foresight 297 = .ok (.ifCond .ne 7, 3) := by decide +kernel
theorem dX5_foresight_300 : decode cX5_foresight 300 = .ok (.iconst 1, 1) := by decide +kernel
theorem dX5_foresight_301 : decode cX5_foresight 301 = .ok (.goto 4, 3) := by decide +kernel
theorem dX5_foresight_304 : decode cX5_foresight 304 = .ok (.iconst 0, 1) := by decide +kernel
theorem dX5_foresight_305 : decode cX5_foresight 305 = .ok (.istore 6, 2) := by decide +kernel
theorem dX5_foresight_307 : decode cX5_foresight 307 = .ok (.iconst 0, 1) := by decide +kernel
theorem dX5_foresight_308 : decode cX5_foresight 308 = .ok (.istore 7, 2) := by decide +kernel
theorem dX5_foresight_310 : decode cX5_foresight 310 = .ok (.iload 7, 2) := by decide +kernel
theorem dX5_foresight_312 : decode cX5_foresight 312 = .ok (.sipush 128, 3) := by decide +kernel
theorem dX5_foresight_315 : decode cX5_foresight 315 = .ok (.if_icmp .ge 108, 3) := by decide +kernel
theorem dX5_foresight_318 : decode cX5_foresight 318 = .ok (.iconst 0, 1) := by decide +kernel
theorem dX5_foresight_319 : decode cX5_foresight 319 = .ok (.istore 8, 2) := by decide +kernel
theorem dX5_foresight_321 : decode cX5_foresight 321 = .ok (.iload 8, 2) := by decide +kernel
theorem dX5_foresight_323 : decode cX5_foresight 323 = .ok (.sipush 128, 3) := by decide +kernel
theorem dX5_foresight_326 : decode cX5_foresight 326 = .ok (.if_icmp .ge 91, 3) := by decide +kernel
theorem dX5_foresight_329 : decode cX5_foresight 329 = .ok (.iload 6, 2) := by decide +kernel
theorem dX5_foresight_331 : decode cX5_foresight 331 = .ok (.ifCond .eq 20, 3) := by decide +kernel
theorem dX5_foresight_334 : decode cX5_foresight 334 = .ok (.aload_n 0, 1) := by decide +kernel
theorem dX5_foresight_335 : decode cX5_foresight 335 = .ok (.getfield 66, 3) := by decide +kernel
theorem dX5_foresight_338 : decode cX5_foresight 338 = .ok (.sipush 128, 3) := by decide +kernel
theorem dX5_foresight_341 : decode cX5_foresight 341 = .ok (.iload 7, 2) := by decide +kernel
theorem dX5_foresight_343 : decode cX5_foresight 343 = .ok (.imul, 1) := by decide +kernel
theorem dX5_foresight_344 : decode cX5_foresight 344 = .ok (.iload 8, 2) := by decide +kernel
theorem dX5_foresight_346 : decode cX5_foresight 346 = .ok (.iadd, 1) := by decide +kernel
theorem dX5_foresight_347 : decode cX5_foresight 347 = .ok (.baload, 1) := by decide +kernel
theorem dX5_foresight_348 : decode cX5_foresight 348 = .ok (.goto 15, 3) := by decide +kernel
theorem dX5_foresight_351 : decode cX5_foresight 351 = .ok (.iload 7, 2) := by decide +kernel
theorem dX5_foresight_353 : decode cX5_foresight 353 = .ok (.iload 8, 2) := by decide +kernel
theorem dX5_foresight_355 : decode cX5_foresight 355 = .ok (.if_icmp .ne 7, 3) := by decide +kernel
theorem dX5_foresight_358 : decode cX5_foresight 358 = .ok (.iconst 1, 1) := by decide +kernel
theorem dX5_foresight_359 : decode cX5_foresight 359 = .ok (.goto 4, 3) := by decide +kernel
theorem dX5_foresight_362 : decode cX5_foresight 362 = .ok (.iconst 0, 1) := by decide +kernel
theorem dX5_foresight_363 : decode cX5_foresight 363 = .ok (.istore 9, 2) := by decide +kernel
theorem dX5_foresight_365 : decode cX5_foresight 365 = .ok (.aload_n 0, 1) := by decide +kernel
theorem dX5_foresight_366 : decode cX5_foresight 366 = .ok (.getfield 78, 3) := by decide +kernel
theorem dX5_foresight_369 : decode cX5_foresight 369 = .ok (.iload 8, 2) := by decide +kernel
theorem dX5_foresight_371 : decode cX5_foresight 371 = .ok (.iload 9, 2) := by decide +kernel
theorem dX5_foresight_373 : decode cX5_foresight 373 = .ok (.ifCond .eq 30, 3) := by decide +kernel
theorem dX5_foresight_376 : decode cX5_foresight 376 = .ok (.aload_n 0, 1) := by decide +kernel
theorem dX5_foresight_377 : decode cX5_foresight 377 = .ok (.getfield 81, 3) := by decide +kernel
theorem dX5_foresight_380 : decode cX5_foresight 380 = .ok (.iload 7, 2) := by decide +kernel
theorem dX5_foresight_382 : decode cX5_foresight 382 = .ok (.iaload, 1) := by decide +kernel
theorem dX5_foresight_383 : decode cX5_foresight 383 = .ok (.aload_n 0, 1) := by decide +kernel
theorem dX5_foresight_384 : decode cX5_foresight 384 = .ok (.getfield 78, 3) := by decide +kernel
theorem dX5_foresight_387 : decode cX5_foresight 387 = .ok (.iload 8, 2) := by decide +kernel
theorem dX5_foresight_389 : decode cX5_foresight 389 = .ok (.iaload, 1) := by decide +kernel
theorem dX5_foresight_390 : decode cX5_foresight 390 = .ok (.if_icmp .ge 13, 3) := by decide +kernel
theorem dX5_foresight_393 : decode cX5_foresight 393 = .ok (.aload_n 0, 1) := by decide +kernel
theorem dX5_foresight_394 : decode cX5_foresight 394 = .ok (.getfield 81, 3) := by decide +kernel
theorem dX5_foresight_397 : decode cX5_foresight 397 = .ok (.iload 7, 2) := by decide +kernel
theorem dX5_foresight_399 : decode cX5_foresight 399 = .ok (.iaload, 1) := by decide +kernel
theorem dX5_foresight_400 : decode cX5_foresight 400 = .ok (.goto 10, 3) := by decide +kernel
theorem dX5_foresight_403 : decode cX5_foresight 403 = .ok (.aload_n 0, 1) := by decide +kernel
theorem dX5_foresight_404 : decode cX5_foresight 404 = .ok (.getfield 78, 3) := by decide +kernel
theorem dX5_foresight_407 : decode cX5_foresight 407 = .ok (.iload 8, 2) := by decide +kernel
theorem dX5_foresight_409 : decode cX5_foresight 409 = .ok (.iaload, 1) := by decide +kernel
theorem dX5_foresight_410 : decode cX5_foresight 410 = .ok (.iastore, 1) := by decide +kernel
theorem dX5_foresight_411 : decode cX5_foresight 411 = .ok (.iinc 8 1, 3) := by decide +kernel
theorem dX5_foresight_414 : decode cX5_foresight 414 = .ok (.goto (-93), 3) := by decide +kernel
theorem dX5_foresight_417 : decode cX5_foresight 417 = .ok (.iinc 7 1, 3) := by decide +kernel
theorem dX5_foresight_420 : decode cX5_foresight 420 = .ok (.goto (-110), 3) := by decide +kernel
theorem dX5_foresight_423 : decode cX5_foresight 423 = .ok (.iinc 5 1, 3) := by decide +kernel
theorem dX5_foresight_426 : decode cX5_foresight 426 = .ok (.goto (-222), 3) := by decide +kernel
theorem dX5_foresight_429 : decode cX5_foresight 429 = .ok (.iload 4, 2) := by decide +kernel
theorem dX5_foresight_431 : decode cX5_foresight 431 = .ok (.ireturn, 1) := by decide +kernel
theorem dX5_lay_0 : decode cX5_lay 0 = .ok (.aload_n 0, 1) := by decide +kernel
theorem dX5_lay_1 : decode cX5_lay 1 = .ok (.getfield 87, 3) := by decide +kernel
theorem dX5_lay_4 : decode cX5_lay 4 = .ok (.aload_n 0, 1) := by decide +kernel
theorem dX5_lay_5 : decode cX5_lay 5 = .ok (.getfield 236, 3) := by decide +kernel
theorem dX5_lay_8 : decode cX5_lay 8 = .ok (.iload_n 1, 1) := by decide +kernel
theorem dX5_lay_9 : decode cX5_lay 9 = .ok (.iastore, 1) := by decide +kernel
theorem dX5_lay_10 : decode cX5_lay 10 = .ok (.aload_n 0, 1) := by decide +kernel
theorem dX5_lay_11 : decode cX5_lay 11 = .ok (.dup, 1) := by decide +kernel
theorem dX5_lay_12 : decode cX5_lay 12 = .ok (.getfield 236, 3) := by decide +kernel
theorem dX5_lay_15 : decode cX5_lay 15 = .ok (.iconst 1, 1) := by decide +kernel
theorem dX5_lay_16 : decode cX5_lay 16 = .ok (.iadd, 1) := by decide +kernel
theorem dX5_lay_17 : decode cX5_lay 17 = .ok (.putfield 236, 3) := by decide +kernel
theorem dX5_lay_20 : decode cX5_lay 20 = .ok (.return_, 1) := by decide +kernel
theorem dX5_keep_0 : decode cX5_keep 0 = .ok (.iload_n 1, 1) := by decide +kernel
theorem dX5_keep_1 : decode cX5_keep 1 = .ok (.i2l, 1) := by decide +kernel
theorem dX5_keep_2 : decode cX5_keep 2 = .ok (.lconst 0, 1) := by decide +kernel
theorem dX5_keep_3 : decode cX5_keep 3 = .ok (.lconst 1, 1) := by decide +kernel
theorem dX5_keep_4 : decode cX5_keep 4 = .ok (.invokestatic 96, 3) := by decide +kernel
theorem dX5_keep_7 : decode cX5_keep 7 = .ok (.ifCond .ne 6, 3) := by decide +kernel
theorem dX5_keep_10 : decode cX5_keep 10 = .ok (.bipush (-101), 2) := by decide +kernel
theorem dX5_keep_12 : decode cX5_keep 12 = .ok (.ireturn, 1) := by decide +kernel
theorem dX5_keep_13 : decode cX5_keep 13 = .ok (.aload_n 0, 1) := by decide +kernel
theorem dX5_keep_14 : decode cX5_keep 14 = .ok (.getfield 84, 3) := by decide +kernel
theorem dX5_keep_17 : decode cX5_keep 17 = .ok (.iload_n 1, 1) := by decide +kernel
theorem dX5_keep_18 : decode cX5_keep 18 = .ok (.aload_n 0, 1) := by decide +kernel
theorem dX5_keep_19 : decode cX5_keep 19 = .ok (.getfield 102, 3) := by decide +kernel
theorem dX5_keep_22 : decode cX5_keep 22 = .ok (.iastore, 1) := by decide +kernel
theorem dX5_keep_23 : decode cX5_keep 23 = .ok (.aload_n 0, 1) := by decide +kernel
theorem dX5_keep_24 : decode cX5_keep 24 = .ok (.sipush 600, 3) := by decide +kernel
theorem dX5_keep_27 : decode cX5_keep 27 = .ok (.iload_n 1, 1) := by decide +kernel
theorem dX5_keep_28 : decode cX5_keep 28 = .ok (.imul, 1) := by decide +kernel
theorem dX5_keep_29 : decode cX5_keep 29 = .ok (.putfield 236, 3) := by decide +kernel
theorem dX5_keep_32 : decode cX5_keep 32 = .ok (.aload_n 0, 1) := by decide +kernel
theorem dX5_keep_33 : decode cX5_keep 33 = .ok (.aload_n 0, 1) := by decide +kernel
theorem dX5_keep_34 : decode cX5_keep 34 = .ok (.getfield 105, 3) := by decide +kernel
theorem dX5_keep_37 : decode cX5_keep 37 = .ok (.invokevirtual 239, 3) := by decide +kernel
theorem dX5_keep_40 : decode cX5_keep 40 = .ok (.aload_n 0, 1) := by decide +kernel
theorem dX5_keep_41 : decode cX5_keep 41 = .ok (.aload_n 0, 1) := by decide +kernel
theorem dX5_keep_42 : decode cX5_keep 42 = .ok (.getfield 108, 3) := by decide +kernel
theorem dX5_keep_45 : decode cX5_keep 45 = .ok (.invokevirtual 239, 3) := by decide +kernel
theorem dX5_keep_48 : decode cX5_keep 48 = .ok (.aload_n 0, 1) := by decide +kernel
theorem dX5_keep_49 : decode cX5_keep 49 = .ok (.aload_n 0, 1) := by decide +kernel
theorem dX5_keep_50 : decode cX5_keep 50 = .ok (.getfield 111, 3) := by decide +kernel
theorem dX5_keep_53 : decode cX5_keep 53 = .ok (.invokevirtual 239, 3) := by decide +kernel
theorem dX5_keep_56 : decode cX5_keep 56 = .ok (.aload_n 0, 1) := by decide +kernel
theorem dX5_keep_57 : decode cX5_keep 57 = .ok (.aload_n 0, 1) := by decide +kernel
theorem dX5_keep_58 : decode cX5_keep 58 = .ok (.getfield 114, 3) := by decide +kernel
theorem dX5_keep_61 : decode cX5_keep 61 = .ok (.invokevirtual 239, 3) := by decide +kernel
theorem dX5_keep_64 : decode cX5_keep 64 = .ok (.aload_n 0, 1) := by decide +kernel
theorem dX5_keep_65 : decode cX5_keep 65 = .ok (.aload_n 0, 1) := by decide +kernel
theorem dX5_keep_66 : decode cX5_keep 66 = .ok (.getfield 117, 3) := by decide +kernel
theorem dX5_keep_69 : decode cX5_keep 69 = .ok (.invokevirtual 239, 3) := by decide +kernel
theorem dX5_keep_72 : decode cX5_keep 72 = .ok (.aload_n 0, 1) := by decide +kernel
theorem dX5_keep_73 : decode cX5_keep 73 = .ok (.aload_n 0, 1) := by decide +kernel
theorem dX5_keep_74 : decode cX5_keep 74 = .ok (.getfield 120, 3) := by decide +kernel
theorem dX5_keep_77 : decode cX5_keep 77 = .ok (.invokevirtual 239, 3) := by decide +kernel
theorem dX5_keep_80 : decode cX5_keep 80 = .ok (.aload_n 0, 1) := by decide +kernel
theorem dX5_keep_81 : decode cX5_keep 81 = .ok (.aload_n 0, 1) := by decide +kernel
theorem dX5_keep_82 : decode cX5_keep 82 = .ok (.getfield 123, 3) := by decide +kernel
theorem dX5_keep_85 : decode cX5_keep 85 = .ok (.invokevirtual 239, 3) := by decide +kernel
theorem dX5_keep_88 : decode cX5_keep 88 = .ok (.aload_n 0, 1) := by decide +kernel
theorem dX5_keep_89 : decode cX5_keep 89 = .ok (.aload_n 0, 1) := by decide +kernel
theorem dX5_keep_90 : decode cX5_keep 90 = .ok (.getfield 126, 3) := by decide +kernel
theorem dX5_keep_93 : decode cX5_keep 93 = .ok (.invokevirtual 239, 3) := by decide +kernel
theorem dX5_keep_96 : decode cX5_keep 96 = .ok (.iconst 0, 1) := by decide +kernel
theorem dX5_keep_97 : decode cX5_keep 97 = .ok (.istore_n 2, 1) := by decide +kernel
theorem dX5_keep_98 : decode cX5_keep 98 = .ok (.iload_n 2, 1) := by decide +kernel
theorem dX5_keep_99 : decode cX5_keep 99 = .ok (.bipush 12, 2) := by decide +kernel
theorem dX5_keep_101 : decode cX5_keep 101 = .ok (.if_icmp .ge 47, 3) := by decide +kernel
theorem dX5_keep_104 : decode cX5_keep 104 = .ok (.aload_n 0, 1) := by decide +kernel
theorem dX5_keep_105 : decode cX5_keep 105 = .ok (.aload_n 0, 1) := by decide +kernel
theorem dX5_keep_106 : decode cX5_keep 106 = .ok (.getfield 7, 3) := by decide +kernel
theorem dX5_keep_109 : decode cX5_keep 109 = .ok (.iload_n 2, 1) := by decide +kernel
theorem dX5_keep_110 : decode cX5_keep 110 = .ok (.iaload, 1) := by decide +kernel
theorem dX5_keep_111 : decode cX5_keep 111 = .ok (.invokevirtual 239, 3) := by decide +kernel
theorem dX5_keep_114 : decode cX5_keep 114 = .ok (.aload_n 0, 1) := by decide +kernel
theorem dX5_keep_115 : decode cX5_keep 115 = .ok (.aload_n 0, 1) := by decide +kernel
theorem dX5_keep_116 : decode cX5_keep 116 = .ok (.getfield 13, 3) := by decide +kernel
theorem dX5_keep_119 : decode cX5_keep 119 = .ok (.iload_n 2, 1) := by decide +kernel
theorem dX5_keep_120 : decode cX5_keep 120 = .ok (.iaload, 1) := by decide +kernel
theorem dX5_keep_121 : decode cX5_keep 121 = .ok (.invokevirtual 239, 3) := by decide +kernel
theorem dX5_keep_124 : decode cX5_keep 124 = .ok (.aload_n 0, 1) := by decide +kernel
theorem dX5_keep_125 : decode cX5_keep 125 = .ok (.aload_n 0, 1) := by decide +kernel
theorem dX5_keep_126 : decode cX5_keep 126 = .ok (.getfield 16, 3) := by decide +kernel
theorem dX5_keep_129 : decode cX5_keep 129 = .ok (.iload_n 2, 1) := by decide +kernel
theorem dX5_keep_130 : decode cX5_keep 130 = .ok (.baload, 1) := by decide +kernel
theorem dX5_keep_131 : decode cX5_keep 131 = .ok (.ifCond .eq 7, 3) := by decide +kernel
theorem dX5_keep_134 : decode cX5_keep 134 = .ok (.iconst 1, 1) := by decide +kernel
theorem dX5_keep_135 : decode cX5_keep 135 = .ok (.goto 4, 3) := by decide +kernel
theorem dX5_keep_138 : decode cX5_keep 138 = .ok (.iconst 0, 1) := by decide +kernel
theorem dX5_keep_139 : decode cX5_keep 139 = .ok (.invokevirtual 239, 3) := by decide +kernel
theorem dX5_keep_142 : decode cX5_keep 142 = .ok (.iinc 2 1, 3) := by decide +kernel
theorem dX5_keep_145 : decode cX5_keep 145 = .ok (.goto (-47), 3) := by decide +kernel
theorem dX5_keep_148 : decode cX5_keep 148 = .ok (.iconst 0, 1) := by decide +kernel
theorem dX5_keep_149 : decode cX5_keep 149 = .ok (.istore_n 2, 1) := by decide +kernel
theorem dX5_keep_150 : decode cX5_keep 150 = .ok (.iload_n 2, 1) := by decide +kernel
theorem dX5_keep_151 : decode cX5_keep 151 = .ok (.bipush 16, 2) := by decide +kernel
theorem dX5_keep_153 : decode cX5_keep 153 = .ok (.if_icmp .ge 29, 3) := by decide +kernel
theorem dX5_keep_156 : decode cX5_keep 156 = .ok (.aload_n 0, 1) := by decide +kernel
theorem dX5_keep_157 : decode cX5_keep 157 = .ok (.aload_n 0, 1) := by decide +kernel
theorem dX5_keep_158 : decode cX5_keep 158 = .ok (.getfield 20, 3) := by decide +kernel
theorem dX5_keep_161 : decode cX5_keep 161 = .ok (.iload_n 2, 1) := by decide +kernel
theorem dX5_keep_162 : decode cX5_keep 162 = .ok (.iaload, 1) := by decide +kernel
theorem dX5_keep_163 : decode cX5_keep 163 = .ok (.invokevirtual 239, 3) := by decide +kernel
theorem dX5_keep_166 : decode cX5_keep 166 = .ok (.aload_n 0, 1) := by decide +kernel
theorem dX5_keep_167 : decode cX5_keep 167 = .ok (.aload_n 0, 1) := by decide +kernel
theorem dX5_keep_168 : decode cX5_keep 168 = .ok (.getfield 23, 3) := by decide +kernel
theorem dX5_keep_171 : decode cX5_keep 171 = .ok (.iload_n 2, 1) := by decide +kernel
theorem dX5_keep_172 : decode cX5_keep 172 = .ok (.iaload, 1) := by decide +kernel
theorem dX5_keep_173 : decode cX5_keep 173 = .ok (.invokevirtual 239, 3) := by decide +kernel
theorem dX5_keep_176 : decode cX5_keep 176 = .ok (.iinc 2 1, 3) := by decide +kernel
theorem dX5_keep_179 : decode cX5_keep 179 = .ok (.goto (-29), 3) := by decide +kernel
theorem dX5_keep_182 : decode cX5_keep 182 = .ok (.iconst 0, 1) := by decide +kernel
theorem dX5_keep_183 : decode cX5_keep 183 = .ok (.istore_n 2, 1) := by decide +kernel
theorem dX5_keep_184 : decode cX5_keep 184 = .ok (.iload_n 2, 1) := by decide +kernel
theorem dX5_keep_185 : decode cX5_keep 185 = .ok (.iconst 4, 1) := by decide +kernel
theorem dX5_keep_186 : decode cX5_keep 186 = .ok (.if_icmp .ge 89, 3) := by decide +kernel
theorem dX5_keep_189 : decode cX5_keep 189 = .ok (.aload_n 0, 1) := by decide +kernel
theorem dX5_keep_190 : decode cX5_keep 190 = .ok (.aload_n 0, 1) := by decide +kernel
theorem dX5_keep_191 : decode cX5_keep 191 = .ok (.getfield 26, 3) := by decide +kernel
theorem dX5_keep_194 : decode cX5_keep 194 = .ok (.iload_n 2, 1) := by decide +kernel
theorem dX5_keep_195 : decode cX5_keep 195 = .ok (.iaload, 1) := by decide +kernel
theorem dX5_keep_196 : decode cX5_keep 196 = .ok (.invokevirtual 239, 3) := by decide +kernel
theorem dX5_keep_199 : decode cX5_keep 199 = .ok (.aload_n 0, 1) := by decide +kernel
theorem dX5_keep_200 : decode cX5_keep 200 = .ok (.aload_n 0, 1) := by decide +kernel
theorem dX5_keep_201 : decode cX5_keep 201 = .ok (.getfield 29, 3) := by decide +kernel
theorem dX5_keep_204 : decode cX5_keep 204 = .ok (.iload_n 2, 1) := by decide +kernel
theorem dX5_keep_205 : decode cX5_keep 205 = .ok (.iaload, 1) := by decide +kernel
theorem dX5_keep_206 : decode cX5_keep 206 = .ok (.invokevirtual 239, 3) := by decide +kernel
theorem dX5_keep_209 : decode cX5_keep 209 = .ok (.aload_n 0, 1) := by decide +kernel
theorem dX5_keep_210 : decode cX5_keep 210 = .ok (.aload_n 0, 1) := by decide +kernel
theorem dX5_keep_211 : decode cX5_keep 211 = .ok (.getfield 32, 3) := by decide +kernel
theorem dX5_keep_214 : decode cX5_keep 214 = .ok (.iload_n 2, 1) := by decide +kernel
theorem dX5_keep_215 : decode cX5_keep 215 = .ok (.iaload, 1) := by decide +kernel
theorem dX5_keep_216 : decode cX5_keep 216 = .ok (.invokevirtual 239, 3) := by decide +kernel
theorem dX5_keep_219 : decode cX5_keep 219 = .ok (.aload_n 0, 1) := by decide +kernel
theorem dX5_keep_220 : decode cX5_keep 220 = .ok (.aload_n 0, 1) := by decide +kernel
theorem dX5_keep_221 : decode cX5_keep 221 = .ok (.getfield 35, 3) := by decide +kernel
theorem dX5_keep_224 : decode cX5_keep 224 = .ok (.iload_n 2, 1) := by decide +kernel
theorem dX5_keep_225 : decode cX5_keep 225 = .ok (.iaload, 1) := by decide +kernel
theorem dX5_keep_226 : decode cX5_keep 226 = .ok (.invokevirtual 239, 3) := by decide +kernel
theorem dX5_keep_229 : decode cX5_keep 229 = .ok (.aload_n 0, 1) := by decide +kernel
theorem dX5_keep_230 : decode cX5_keep 230 = .ok (.aload_n 0, 1) := by decide +kernel
theorem dX5_keep_231 : decode cX5_keep 231 = .ok (.getfield 38, 3) := by decide +kernel
theorem dX5_keep_234 : decode cX5_keep 234 = .ok (.iload_n 2, 1) := by decide +kernel
theorem dX5_keep_235 : decode cX5_keep 235 = .ok (.iaload, 1) := by decide +kernel
theorem dX5_keep_236 : decode cX5_keep 236 = .ok (.invokevirtual 239, 3) := by decide +kernel
theorem dX5_keep_239 : decode cX5_keep 239 = .ok (.aload_n 0, 1) := by decide +kernel
theorem dX5_keep_240 : decode cX5_keep 240 = .ok (.aload_n 0, 1) := by decide +kernel
theorem dX5_keep_241 : decode cX5_keep 241 = .ok (.getfield 41, 3) := by decide +kernel
theorem dX5_keep_244 : decode cX5_keep 244 = .ok (.iload_n 2, 1) := by decide +kernel
theorem dX5_keep_245 : decode cX5_keep 245 = .ok (.iaload, 1) := by decide +kernel
theorem dX5_keep_246 : decode cX5_keep 246 = .ok (.invokevirtual 239, 3) := by decide +kernel
theorem dX5_keep_249 : decode cX5_keep 249 = .ok (.aload_n 0, 1) := by decide +kernel
theorem dX5_keep_250 : decode cX5_keep 250 = .ok (.aload_n 0, 1) := by decide +kernel
theorem dX5_keep_251 : decode cX5_keep 251 = .ok (.getfield 44, 3) := by decide +kernel
theorem dX5_keep_254 : decode cX5_keep 254 = .ok (.iload_n 2, 1) := by decide +kernel
theorem dX5_keep_255 : decode cX5_keep 255 = .ok (.iaload, 1) := by decide +kernel
theorem dX5_keep_256 : decode cX5_keep 256 = .ok (.invokevirtual 239, 3) := by decide +kernel
theorem dX5_keep_259 : decode cX5_keep 259 = .ok (.aload_n 0, 1) := by decide +kernel
theorem dX5_keep_260 : decode cX5_keep 260 = .ok (.aload_n 0, 1) := by decide +kernel
theorem dX5_keep_261 : decode cX5_keep 261 = .ok (.getfield 47, 3) := by decide +kernel
theorem dX5_keep_264 : decode cX5_keep 264 = .ok (.iload_n 2, 1) := by decide +kernel
theorem dX5_keep_265 : decode cX5_keep 265 = .ok (.iaload, 1) := by decide +kernel
theorem dX5_keep_266 : decode cX5_keep 266 = .ok (.invokevirtual 239, 3) := by decide +kernel
theorem dX5_keep_269 : decode cX5_keep 269 = .ok (.iinc 2 1, 3) := by decide +kernel
theorem dX5_keep_272 : decode cX5_keep 272 = .ok (.goto (-88), 3) := by decide +kernel
theorem dX5_keep_275 : decode cX5_keep 275 = .ok (.iconst 0, 1) := by decide +kernel
theorem dX5_keep_276 : decode cX5_keep 276 = .ok (.istore_n 2, 1) := by decide +kernel
theorem dX5_keep_277 : decode cX5_keep 277 = .ok (.iload_n 2, 1) := by decide +kernel
theorem dX5_keep_278 : decode cX5_keep 278 = .ok (.sipush 256, 3) := by decide +kernel
theorem dX5_keep_281 : decode cX5_keep 281 = .ok (.if_icmp .ge 19, 3) := by decide +kernel
theorem dX5_keep_284 : decode cX5_keep 284 = .ok (.aload_n 0, 1) := by decide +kernel
theorem dX5_keep_285 : decode cX5_keep 285 = .ok (.aload_n 0, 1) := by decide +kernel
theorem dX5_keep_286 : decode cX5_keep 286 = .ok (.getfield 50, 3) := by decide +kernel
theorem dX5_keep_289 : decode cX5_keep 289 = .ok (.iload_n 2, 1) := by decide +kernel
theorem dX5_keep_290 : decode cX5_keep 290 = .ok (.iaload, 1) := by decide +kernel
theorem dX5_keep_291 : decode cX5_keep 291 = .ok (.invokevirtual 239, 3) := by decide +kernel
theorem dX5_keep_294 : decode cX5_keep 294 = .ok (.iinc 2 1, 3) := by decide +kernel
theorem dX5_keep_297 : decode cX5_keep 297 = .ok (.goto (-20), 3) := by decide +kernel
theorem dX5_keep_300 : decode cX5_keep 300 = .ok (.iconst 0, 1) := by decide +kernel
theorem dX5_keep_301 : decode cX5_keep 301 = .ok (.istore_n 2, 1) := by decide +kernel
theorem dX5_keep_302 : decode cX5_keep 302 = .ok (.iload_n 2, 1) := by decide +kernel
theorem dX5_keep_303 : decode cX5_keep 303 = .ok (.bipush 28, 2) := by decide +kernel
theorem dX5_keep_305 : decode cX5_keep 305 = .ok (.if_icmp .ge 19, 3) := by decide +kernel
theorem dX5_keep_308 : decode cX5_keep 308 = .ok (.aload_n 0, 1) := by decide +kernel
theorem dX5_keep_309 : decode cX5_keep 309 = .ok (.aload_n 0, 1) := by decide +kernel
theorem dX5_keep_310 : decode cX5_keep 310 = .ok (.getfield 53, 3) := by decide +kernel
theorem dX5_keep_313 : decode cX5_keep 313 = .ok (.iload_n 2, 1) := by decide +kernel
theorem dX5_keep_314 : decode cX5_keep 314 = .ok (.iaload, 1) := by decide +kernel
theorem dX5_keep_315 : decode cX5_keep 315 = .ok (.invokevirtual 239, 3) := by decide +kernel
theorem dX5_keep_318 : decode cX5_keep 318 = .ok (.iinc 2 1, 3) := by decide +kernel
theorem dX5_keep_321 : decode cX5_keep 321 = .ok (.goto (-19), 3) := by decide +kernel
theorem dX5_keep_324 : decode cX5_keep 324 = .ok (.iconst 0, 1) := by decide +kernel
theorem dX5_keep_325 : decode cX5_keep 325 = .ok (.istore_n 2, 1) := by decide +kernel
theorem dX5_keep_326 : decode cX5_keep 326 = .ok (.iload_n 2, 1) := by decide +kernel
theorem dX5_keep_327 : decode cX5_keep 327 = .ok (.sipush 200, 3) := by decide +kernel
theorem dX5_keep_330 : decode cX5_keep 330 = .ok (.if_icmp .ge 19, 3) := by decide +kernel
theorem dX5_keep_333 : decode cX5_keep 333 = .ok (.aload_n 0, 1) := by decide +kernel
theorem dX5_keep_334 : decode cX5_keep 334 = .ok (.aload_n 0, 1) := by decide +kernel
theorem dX5_keep_335 : decode cX5_keep 335 = .ok (.getfield 56, 3) := by decide +kernel
theorem dX5_keep_338 : decode cX5_keep 338 = .ok (.iload_n 2, 1) := by decide +kernel
theorem dX5_keep_339 : decode cX5_keep 339 = .ok (.iaload, 1) := by decide +kernel
theorem dX5_keep_340 : decode cX5_keep 340 = .ok (.invokevirtual 239, 3) := by decide +kernel
theorem dX5_keep_343 : decode cX5_keep 343 = .ok (.iinc 2 1, 3) := by decide +kernel
theorem dX5_keep_346 : decode cX5_keep 346 = .ok (.goto (-20), 3) := by decide +kernel
theorem dX5_keep_349 : decode cX5_keep 349 = .ok (.iconst 1, 1) := by decide +kernel
theorem dX5_keep_350 : decode cX5_keep 350 = .ok (.ireturn, 1) := by decide +kernel
theorem dX5_take_0 : decode cX5_take 0 = .ok (.aload_n 0, 1) := by decide +kernel
theorem dX5_take_1 : decode cX5_take 1 = .ok (.dup, 1) := by decide +kernel
theorem dX5_take_2 : decode cX5_take 2 = .ok (.getfield 236, 3) := by decide +kernel
theorem dX5_take_5 : decode cX5_take 5 = .ok (.iconst 1, 1) := by decide +kernel
theorem dX5_take_6 : decode cX5_take 6 = .ok (.iadd, 1) := by decide +kernel
theorem dX5_take_7 : decode cX5_take 7 = .ok (.putfield 236, 3) := by decide +kernel
theorem dX5_take_10 : decode cX5_take 10 = .ok (.aload_n 0, 1) := by decide +kernel
theorem dX5_take_11 : decode cX5_take 11 = .ok (.getfield 87, 3) := by decide +kernel
theorem dX5_take_14 : decode cX5_take 14 = .ok (.aload_n 0, 1) := by decide +kernel
theorem dX5_take_15 : decode cX5_take 15 = .ok (.getfield 236, 3) := by decide +kernel
theorem dX5_take_18 : decode cX5_take 18 = .ok (.iconst 1, 1) := by decide +kernel
theorem dX5_take_19 : decode cX5_take 19 = .ok (.isub, 1) := by decide +kernel
theorem dX5_take_20 : decode cX5_take 20 = .ok (.iaload, 1) := by decide +kernel
theorem dX5_take_21 : decode cX5_take 21 = .ok (.ireturn, 1) := by decide +kernel
theorem dX5_back_0 : decode cX5_back 0 = .ok (.iload_n 1, 1) := by decide +kernel
theorem dX5_back_1 : decode cX5_back 1 = .ok (.i2l, 1) := by decide +kernel
theorem dX5_back_2 : decode cX5_back 2 = .ok (.lconst 0, 1) := by decide +kernel
theorem dX5_back_3 : decode cX5_back 3 = .ok (.lconst 1, 1) := by decide +kernel
theorem dX5_back_4 : decode cX5_back 4 = .ok (.invokestatic 96, 3) := by decide +kernel
theorem dX5_back_7 : decode cX5_back 7 = .ok (.ifCond .ne 6, 3) := by decide +kernel
theorem dX5_back_10 : decode cX5_back 10 = .ok (.bipush (-101), 2) := by decide +kernel
theorem dX5_back_12 : decode cX5_back 12 = .ok (.ireturn, 1) := by decide +kernel
theorem dX5_back_13 : decode cX5_back 13 = .ok (.aload_n 0, 1) := by decide +kernel
theorem dX5_back_14 : decode cX5_back 14 = .ok (.getfield 84, 3) := by decide +kernel
theorem dX5_back_17 : decode cX5_back 17 = .ok (.iload_n 1, 1) := by decide +kernel
theorem dX5_back_18 : decode cX5_back 18 = .ok (.iaload, 1) := by decide +kernel
theorem dX5_back_19 : decode cX5_back 19 = .ok (.ifCond .ge 6, 3) := by decide +kernel
theorem dX5_back_22 : decode cX5_back 22 = .ok (.bipush (-103), 2) := by decide +kernel
theorem dX5_back_24 : decode cX5_back 24 = .ok (.ireturn, 1) := by decide +kernel
theorem dX5_back_25 : decode cX5_back 25 = .ok (.aload_n 0, 1) := by decide +kernel
theorem dX5_back_26 : decode cX5_back 26 = .ok (.aload_n 0, 1) := by decide +kernel
theorem dX5_back_27 : decode cX5_back 27 = .ok (.getfield 84, 3) := by decide +kernel
theorem dX5_back_30 : decode cX5_back 30 = .ok (.iload_n 1, 1) := by decide +kernel
theorem dX5_back_31 : decode cX5_back 31 = .ok (.iaload, 1) := by decide +kernel
theorem dX5_back_32 : decode cX5_back 32 = .ok (.putfield 102, 3) := by decide +kernel
theorem dX5_back_35 : decode cX5_back 35 = .ok (.aload_n 0, 1) := by decide +kernel
theorem dX5_back_36 : decode cX5_back 36 = .ok (.sipush 600, 3) := by decide +kernel
theorem dX5_back_39 : decode cX5_back 39 = .ok (.iload_n 1, 1) := by decide +kernel
theorem dX5_back_40 : decode cX5_back 40 = .ok (.imul, 1) := by decide +kernel
theorem dX5_back_41 : decode cX5_back 41 = .ok (.putfield 236, 3) := by decide +kernel
theorem dX5_back_44 : decode cX5_back 44 = .ok (.aload_n 0, 1) := by decide +kernel
theorem dX5_back_45 : decode cX5_back 45 = .ok (.aload_n 0, 1) := by decide +kernel
theorem dX5_back_46 : decode cX5_back 46 = .ok (.invokevirtual 242, 3) := by decide +kernel
theorem dX5_back_49 : decode cX5_back 49 = .ok (.putfield 105, 3) := by decide +kernel
theorem dX5_back_52 : decode cX5_back 52 = .ok (.aload_n 0, 1) := by decide +kernel
theorem dX5_back_53 : decode cX5_back 53 = .ok (.aload_n 0, 1) := by decide +kernel
theorem dX5_back_54 : decode cX5_back 54 = .ok (.invokevirtual 242, 3) := by decide +kernel
theorem dX5_back_57 : decode cX5_back 57 = .ok (.putfield 108, 3) := by decide +kernel
theorem dX5_back_60 : decode cX5_back 60 = .ok (.aload_n 0, 1) := by decide +kernel
theorem dX5_back_61 : decode cX5_back 61 = .ok (.aload_n 0, 1) := by decide +kernel
theorem dX5_back_62 : decode cX5_back 62 = .ok (.invokevirtual 242, 3) := by decide +kernel
theorem dX5_back_65 : decode cX5_back 65 = .ok (.putfield 111, 3) := by decide +kernel
theorem dX5_back_68 : decode cX5_back 68 = .ok (.aload_n 0, 1) := by decide +kernel
theorem dX5_back_69 : decode cX5_back 69 = .ok (.aload_n 0, 1) := by decide +kernel
theorem dX5_back_70 : decode cX5_back 70 = .ok (.invokevirtual 242, 3) := by decide +kernel
theorem dX5_back_73 : decode cX5_back 73 = .ok (.putfield 114, 3) := by decide +kernel
theorem dX5_back_76 : decode cX5_back 76 = .ok (.aload_n 0, 1) := by decide +kernel
theorem dX5_back_77 : decode cX5_back 77 = .ok (.aload_n 0, 1) := by decide +kernel
theorem dX5_back_78 : decode cX5_back 78 = .ok (.invokevirtual 242, 3) := by decide +kernel
theorem dX5_back_81 : decode cX5_back 81 = .ok (.putfield 117, 3) := by decide +kernel
theorem dX5_back_84 : decode cX5_back 84 = .ok (.aload_n 0, 1) := by decide +kernel
theorem dX5_back_85 : decode cX5_back 85 = .ok (.aload_n 0, 1) := by decide +kernel
theorem dX5_back_86 : decode cX5_back 86 = .ok (.invokevirtual 242, 3) := by decide +kernel
theorem dX5_back_89 : decode cX5_back 89 = .ok (.putfield 120, 3) := by decide +kernel
theorem dX5_back_92 : decode cX5_back 92 = .ok (.aload_n 0, 1) := by decide +kernel
theorem dX5_back_93 : decode cX5_back 93 = .ok (.aload_n 0, 1) := by decide +kernel
theorem dX5_back_94 : decode cX5_back 94 = .ok (.invokevirtual 242, 3) := by decide +kernel
theorem dX5_back_97 : decode cX5_back 97 = .ok (.putfield 123, 3) := by decide +kernel
theorem dX5_back_100 : decode cX5_back 100 = .ok (.aload_n 0, 1) := by decide +kernel
theorem dX5_back_101 : decode cX5_back 101 = .ok (.aload_n 0, 1) := by decide +kernel
theorem dX5_back_102 : decode cX5_back 102 = .ok (.invokevirtual 242, 3) := by decide +kernel
theorem dX5_back_105 : decode cX5_back 105 = .ok (.putfield 126, 3) := by decide +kernel
theorem dX5_back_108 : decode cX5_back 108 = .ok (.iconst 0, 1) := by decide +kernel
theorem dX5_back_109 : decode cX5_back 109 = .ok (.istore_n 2, 1) := by decide +kernel
theorem dX5_back_110 : decode cX5_back 110 = .ok (.iload_n 2, 1) := by decide +kernel
theorem dX5_back_111 : decode cX5_back 111 = .ok (.bipush 12, 2) := by decide +kernel
theorem dX5_back_113 : decode cX5_back 113 = .ok (.if_icmp .ge 48, 3) := by decide +kernel
theorem dX5_back_116 : decode cX5_back 116 = .ok (.aload_n 0, 1) := by decide +kernel
theorem dX5_back_117 : decode cX5_back 117 = .ok (.getfield 7, 3) := by decide +kernel
theorem dX5_back_120 : decode cX5_back 120 = .ok (.iload_n 2, 1) := by decide +kernel
theorem dX5_back_121 : decode cX5_back 121 = .ok (.aload_n 0, 1) := by decide +kernel
theorem dX5_back_122 : decode cX5_back 122 = .ok (.invokevirtual 242, 3) := by decide +kernel
theorem dX5_back_125 : decode cX5_back 125 = .ok (.iastore, 1) := by decide +kernel
theorem dX5_back_126 : decode cX5_back 126 = .ok (.aload_n 0, 1) := by decide +kernel
theorem dX5_back_127 : decode cX5_back 127 = .ok (.getfield 13, 3) := by decide +kernel
theorem dX5_back_130 : decode cX5_back 130 = .ok (.iload_n 2, 1) := by decide +kernel
theorem dX5_back_131 : decode cX5_back 131 = .ok (.aload_n 0, 1) := by decide +kernel
theorem dX5_back_132 : decode cX5_back 132 = .ok (.invokevirtual 242, 3) := by decide +kernel
theorem dX5_back_135 : decode cX5_back 135 = .ok (.iastore, 1) := by decide +kernel
theorem dX5_back_136 : decode cX5_back 136 = .ok (.aload_n 0, 1) := by decide +kernel
theorem dX5_back_137 : decode cX5_back 137 = .ok (.getfield 16, 3) := by decide +kernel
theorem dX5_back_140 : decode cX5_back 140 = .ok (.iload_n 2, 1) := by decide +kernel
theorem dX5_back_141 : decode cX5_back 141 = .ok (.aload_n 0, 1) := by decide +kernel
theorem dX5_back_142 : decode cX5_back 142 = .ok (.invokevirtual 242, 3) := by decide +kernel
theorem dX5_back_145 : decode cX5_back 145 = .ok (.iconst 1, 1) := by decide +kernel
theorem dX5_back_146 : decode cX5_back 146 = .ok (.if_icmp .ne 7, 3) := by decide +kernel
theorem dX5_back_149 : decode cX5_back 149 = .ok (.iconst 1, 1) := by decide +kernel
theorem dX5_back_150 : decode cX5_back 150 = .ok (.goto 4, 3) := by decide +kernel
theorem dX5_back_153 : decode cX5_back 153 = .ok (.iconst 0, 1) := by decide +kernel
theorem dX5_back_154 : decode cX5_back 154 = .ok (.bastore, 1) := by decide +kernel
theorem dX5_back_155 : decode cX5_back 155 = .ok (.iinc 2 1, 3) := by decide +kernel
theorem dX5_back_158 : decode cX5_back 158 = .ok (.goto (-48), 3) := by decide +kernel
theorem dX5_back_161 : decode cX5_back 161 = .ok (.iconst 0, 1) := by decide +kernel
theorem dX5_back_162 : decode cX5_back 162 = .ok (.istore_n 2, 1) := by decide +kernel
theorem dX5_back_163 : decode cX5_back 163 = .ok (.iload_n 2, 1) := by decide +kernel
theorem dX5_back_164 : decode cX5_back 164 = .ok (.bipush 16, 2) := by decide +kernel
theorem dX5_back_166 : decode cX5_back 166 = .ok (.if_icmp .ge 29, 3) := by decide +kernel
theorem dX5_back_169 : decode cX5_back 169 = .ok (.aload_n 0, 1) := by decide +kernel
theorem dX5_back_170 : decode cX5_back 170 = .ok (.getfield 20, 3) := by decide +kernel
theorem dX5_back_173 : decode cX5_back 173 = .ok (.iload_n 2, 1) := by decide +kernel
theorem dX5_back_174 : decode cX5_back 174 = .ok (.aload_n 0, 1) := by decide +kernel
theorem dX5_back_175 : decode cX5_back 175 = .ok (.invokevirtual 242, 3) := by decide +kernel
theorem dX5_back_178 : decode cX5_back 178 = .ok (.iastore, 1) := by decide +kernel
theorem dX5_back_179 : decode cX5_back 179 = .ok (.aload_n 0, 1) := by decide +kernel
theorem dX5_back_180 : decode cX5_back 180 = .ok (.getfield 23, 3) := by decide +kernel
theorem dX5_back_183 : decode cX5_back 183 = .ok (.iload_n 2, 1) := by decide +kernel
theorem dX5_back_184 : decode cX5_back 184 = .ok (.aload_n 0, 1) := by decide +kernel
theorem dX5_back_185 : decode cX5_back 185 = .ok (.invokevirtual 242, 3) := by decide +kernel
theorem dX5_back_188 : decode cX5_back 188 = .ok (.iastore, 1) := by decide +kernel
theorem dX5_back_189 : decode cX5_back 189 = .ok (.iinc 2 1, 3) := by decide +kernel
theorem dX5_back_192 : decode cX5_back 192 = .ok (.goto (-29), 3) := by decide +kernel
theorem dX5_back_195 : decode cX5_back 195 = .ok (.iconst 0, 1) := by decide +kernel
theorem dX5_back_196 : decode cX5_back 196 = .ok (.istore_n 2, 1) := by decide +kernel
theorem dX5_back_197 : decode cX5_back 197 = .ok (.iload_n 2, 1) := by decide +kernel
theorem dX5_back_198 : decode cX5_back 198 = .ok (.iconst 4, 1) := by decide +kernel
theorem dX5_back_199 : decode cX5_back 199 = .ok (.if_icmp .ge 89, 3) := by decide +kernel
theorem dX5_back_202 : decode cX5_back 202 = .ok (.aload_n 0, 1) := by decide +kernel
theorem dX5_back_203 : decode cX5_back 203 = .ok (.getfield 26, 3) := by decide +kernel
theorem dX5_back_206 : decode cX5_back 206 = .ok (.iload_n 2, 1) := by decide +kernel
theorem dX5_back_207 : decode cX5_back 207 = .ok (.aload_n 0, 1) := by decide +kernel
theorem dX5_back_208 : decode cX5_back 208 = .ok (.invokevirtual 242, 3) := by decide +kernel
theorem dX5_back_211 : decode cX5_back 211 = .ok (.iastore, 1) := by decide +kernel
theorem dX5_back_212 : decode cX5_back 212 = .ok (.aload_n 0, 1) := by decide +kernel
theorem dX5_back_213 : decode cX5_back 213 = .ok (.getfield 29, 3) := by decide +kernel
theorem dX5_back_216 : decode cX5_back 216 = .ok (.iload_n 2, 1) := by decide +kernel
theorem dX5_back_217 : decode cX5_back 217 = .ok (.aload_n 0, 1) := by decide +kernel
theorem dX5_back_218 : decode cX5_back 218 = .ok (.invokevirtual 242, 3) := by decide +kernel
theorem dX5_back_221 : decode cX5_back 221 = .ok (.iastore, 1) := by decide +kernel
theorem dX5_back_222 : decode cX5_back 222 = .ok (.aload_n 0, 1) := by decide +kernel
theorem dX5_back_223 : decode cX5_back 223 = .ok (.getfield 32, 3) := by decide +kernel
theorem dX5_back_226 : decode cX5_back 226 = .ok (.iload_n 2, 1) := by decide +kernel
theorem dX5_back_227 : decode cX5_back 227 = .ok (.aload_n 0, 1) := by decide +kernel
theorem dX5_back_228 : decode cX5_back 228 = .ok (.invokevirtual 242, 3) := by decide +kernel
theorem dX5_back_231 : decode cX5_back 231 = .ok (.iastore, 1) := by decide +kernel
theorem dX5_back_232 : decode cX5_back 232 = .ok (.aload_n 0, 1) := by decide +kernel
theorem dX5_back_233 : decode cX5_back 233 = .ok (.getfield 35, 3) := by decide +kernel
theorem dX5_back_236 : decode cX5_back 236 = .ok (.iload_n 2, 1) := by decide +kernel
theorem dX5_back_237 : decode cX5_back 237 = .ok (.aload_n 0, 1) := by decide +kernel
theorem dX5_back_238 : decode cX5_back 238 = .ok (.invokevirtual 242, 3) := by decide +kernel
theorem dX5_back_241 : decode cX5_back 241 = .ok (.iastore, 1) := by decide +kernel
theorem dX5_back_242 : decode cX5_back 242 = .ok (.aload_n 0, 1) := by decide +kernel
theorem dX5_back_243 : decode cX5_back 243 = .ok (.getfield 38, 3) := by decide +kernel
theorem dX5_back_246 : decode cX5_back 246 = .ok (.iload_n 2, 1) := by decide +kernel
theorem dX5_back_247 : decode cX5_back 247 = .ok (.aload_n 0, 1) := by decide +kernel
theorem dX5_back_248 : decode cX5_back 248 = .ok (.invokevirtual 242, 3) := by decide +kernel
theorem dX5_back_251 : decode cX5_back 251 = .ok (.iastore, 1) := by decide +kernel
theorem dX5_back_252 : decode cX5_back 252 = .ok (.aload_n 0, 1) := by decide +kernel
theorem dX5_back_253 : decode cX5_back 253 = .ok (.getfield 41, 3) := by decide +kernel
theorem dX5_back_256 : decode cX5_back 256 = .ok (.iload_n 2, 1) := by decide +kernel
theorem dX5_back_257 : decode cX5_back 257 = .ok (.aload_n 0, 1) := by decide +kernel
theorem dX5_back_258 : decode cX5_back 258 = .ok (.invokevirtual 242, 3) := by decide +kernel
theorem dX5_back_261 : decode cX5_back 261 = .ok (.iastore, 1) := by decide +kernel
theorem dX5_back_262 : decode cX5_back 262 = .ok (.aload_n 0, 1) := by decide +kernel
theorem dX5_back_263 : decode cX5_back 263 = .ok (.getfield 44, 3) := by decide +kernel
theorem dX5_back_266 : decode cX5_back 266 = .ok (.iload_n 2, 1) := by decide +kernel
theorem dX5_back_267 : decode cX5_back 267 = .ok (.aload_n 0, 1) := by decide +kernel
theorem dX5_back_268 : decode cX5_back 268 = .ok (.invokevirtual 242, 3) := by decide +kernel
theorem dX5_back_271 : decode cX5_back 271 = .ok (.iastore, 1) := by decide +kernel
theorem dX5_back_272 : decode cX5_back 272 = .ok (.aload_n 0, 1) := by decide +kernel
theorem dX5_back_273 : decode cX5_back 273 = .ok (.getfield 47, 3) := by decide +kernel
theorem dX5_back_276 : decode cX5_back 276 = .ok (.iload_n 2, 1) := by decide +kernel
theorem dX5_back_277 : decode cX5_back 277 = .ok (.aload_n 0, 1) := by decide +kernel
theorem dX5_back_278 : decode cX5_back 278 = .ok (.invokevirtual 242, 3) := by decide +kernel
theorem dX5_back_281 : decode cX5_back 281 = .ok (.iastore, 1) := by decide +kernel
theorem dX5_back_282 : decode cX5_back 282 = .ok (.iinc 2 1, 3) := by decide +kernel
theorem dX5_back_285 : decode cX5_back 285 = .ok (.goto (-88), 3) := by decide +kernel
theorem dX5_back_288 : decode cX5_back 288 = .ok (.iconst 0, 1) := by decide +kernel
theorem dX5_back_289 : decode cX5_back 289 = .ok (.istore_n 2, 1) := by decide +kernel
theorem dX5_back_290 : decode cX5_back 290 = .ok (.iload_n 2, 1) := by decide +kernel
theorem dX5_back_291 : decode cX5_back 291 = .ok (.sipush 256, 3) := by decide +kernel
theorem dX5_back_294 : decode cX5_back 294 = .ok (.if_icmp .ge 19, 3) := by decide +kernel
theorem dX5_back_297 : decode cX5_back 297 = .ok (.aload_n 0, 1) := by decide +kernel
theorem dX5_back_298 : decode cX5_back 298 = .ok (.getfield 50, 3) := by decide +kernel
theorem dX5_back_301 : decode cX5_back 301 = .ok (.iload_n 2, 1) := by decide +kernel
theorem dX5_back_302 : decode cX5_back 302 = .ok (.aload_n 0, 1) := by decide +kernel
theorem dX5_back_303 : decode cX5_back 303 = .ok (.invokevirtual 242, 3) := by decide +kernel
theorem dX5_back_306 : decode cX5_back 306 = .ok (.iastore, 1) := by decide +kernel
theorem dX5_back_307 : decode cX5_back 307 = .ok (.iinc 2 1, 3) := by decide +kernel
theorem dX5_back_310 : decode cX5_back 310 = .ok (.goto (-20), 3) := by decide +kernel
theorem dX5_back_313 : decode cX5_back 313 = .ok (.iconst 0, 1) := by decide +kernel
theorem dX5_back_314 : decode cX5_back 314 = .ok (.istore_n 2, 1) := by decide +kernel
theorem dX5_back_315 : decode cX5_back 315 = .ok (.iload_n 2, 1) := by decide +kernel
theorem dX5_back_316 : decode cX5_back 316 = .ok (.bipush 28, 2) := by decide +kernel
theorem dX5_back_318 : decode cX5_back 318 = .ok (.if_icmp .ge 19, 3) := by decide +kernel
theorem dX5_back_321 : decode cX5_back 321 = .ok (.aload_n 0, 1) := by decide +kernel
theorem dX5_back_322 : decode cX5_back 322 = .ok (.getfield 53, 3) := by decide +kernel
theorem dX5_back_325 : decode cX5_back 325 = .ok (.iload_n 2, 1) := by decide +kernel
theorem dX5_back_326 : decode cX5_back 326 = .ok (.aload_n 0, 1) := by decide +kernel
theorem dX5_back_327 : decode cX5_back 327 = .ok (.invokevirtual 242, 3) := by decide +kernel
theorem dX5_back_330 : decode cX5_back 330 = .ok (.iastore, 1) := by decide +kernel
theorem dX5_back_331 : decode cX5_back 331 = .ok (.iinc 2 1, 3) := by decide +kernel
theorem dX5_back_334 : decode cX5_back 334 = .ok (.goto (-19), 3) := by decide +kernel
theorem dX5_back_337 : decode cX5_back 337 = .ok (.iconst 0, 1) := by decide +kernel
theorem dX5_back_338 : decode cX5_back 338 = .ok (.istore_n 2, 1) := by decide +kernel
theorem dX5_back_339 : decode cX5_back 339 = .ok (.iload_n 2, 1) := by decide +kernel
theorem dX5_back_340 : decode cX5_back 340 = .ok (.sipush 200, 3) := by decide +kernel
theorem dX5_back_343 : decode cX5_back 343 = .ok (.if_icmp .ge 19, 3) := by decide +kernel
theorem dX5_back_346 : decode cX5_back 346 = .ok (.aload_n 0, 1) := by decide +kernel
theorem dX5_back_347 : decode cX5_back 347 = .ok (.getfield 56, 3) := by decide +kernel
theorem dX5_back_350 : decode cX5_back 350 = .ok (.iload_n 2, 1) := by decide +kernel
theorem dX5_back_351 : decode cX5_back 351 = .ok (.aload_n 0, 1) := by decide +kernel
theorem dX5_back_352 : decode cX5_back 352 = .ok (.invokevirtual 242, 3) := by decide +kernel
theorem dX5_back_355 : decode cX5_back 355 = .ok (.iastore, 1) := by decide +kernel
theorem dX5_back_356 : decode cX5_back 356 = .ok (.iinc 2 1, 3) := by decide +kernel
theorem dX5_back_359 : decode cX5_back 359 = .ok (.goto (-20), 3) := by decide +kernel
theorem dX5_back_362 : decode cX5_back 362 = .ok (.iconst 1, 1) := by decide +kernel
theorem dX5_back_363 : decode cX5_back 363 = .ok (.ireturn, 1) := by decide +kernel
theorem dX5_digested_0 : decode cX5_digested 0 = .ok (.bipush 31, 2) := by decide +kernel
theorem dX5_digested_2 : decode cX5_digested 2 = .ok (.iload_n 1, 1) := by decide +kernel
theorem dX5_digested_3 : decode cX5_digested 3 = .ok (.imul, 1) := by decide +kernel
theorem dX5_digested_4 : decode cX5_digested 4 = .ok (.iload_n 2, 1) := by decide +kernel
theorem dX5_digested_5 : decode cX5_digested 5 = .ok (.iadd, 1) := by decide +kernel
theorem dX5_digested_6 : decode cX5_digested 6 = .ok (.ireturn, 1) := by decide +kernel
theorem dX5_digest_0 : decode cX5_digest 0 = .ok (.aload_n 0, 1) := by decide +kernel
theorem dX5_digest_1 : decode cX5_digest 1 = .ok (.aload_n 0, 1) := by decide +kernel
theorem dX5_digest_2 : decode cX5_digest 2 = .ok (.aload_n 0, 1) := by decide +kernel
theorem dX5_digest_3 : decode cX5_digest 3 = .ok (.aload_n 0, 1) := by decide +kernel
theorem dX5_digest_4 : decode cX5_digest 4 = .ok (.aload_n 0, 1) := by decide +kernel
theorem dX5_digest_5 : decode cX5_digest 5 = .ok (.bipush 7, 2) := by decide +kernel
theorem dX5_digest_7 : decode cX5_digest 7 = .ok (.aload_n 0, 1) := by decide +kernel
theorem dX5_digest_8 : decode cX5_digest 8 = .ok (.getfield 102, 3) := by decide +kernel
theorem dX5_digest_11 : decode cX5_digest 11 = .ok (.invokevirtual 245, 3) := by decide +kernel
theorem dX5_digest_14 : decode cX5_digest 14 = .ok (.aload_n 0, 1) := by decide +kernel
theorem dX5_digest_15 : decode cX5_digest 15 = .ok (.getfield 105, 3) := by decide +kernel
theorem dX5_digest_18 : decode cX5_digest 18 = .ok (.invokevirtual 245, 3) := by decide +kernel
theorem dX5_digest_21 : decode cX5_digest 21 = .ok (.aload_n 0, 1) := by decide +kernel
theorem dX5_digest_22 : decode cX5_digest 22 = .ok (.getfield 108, 3) := by decide +kernel
theorem dX5_digest_25 : decode cX5_digest 25 = .ok (.invokevirtual 245, 3) := by decide +kernel
theorem dX5_digest_28 : decode cX5_digest 28 = .ok (.aload_n 0, 1) := by decide +kernel
theorem dX5_digest_29 : decode cX5_digest 29 = .ok (.getfield 117, 3) := by decide +kernel
theorem dX5_digest_32 : decode cX5_digest 32 = .ok (.invokevirtual 245, 3) := by decide +kernel
theorem dX5_digest_35 : decode cX5_digest 35 = .ok (.aload_n 0, 1) := by decide +kernel
theorem dX5_digest_36 : decode cX5_digest 36 = .ok (.getfield 120, 3) := by decide +kernel
theorem dX5_digest_39 : decode cX5_digest 39 = .ok (.invokevirtual 245, 3) := by decide +kernel
theorem dX5_digest_42 : decode cX5_digest 42 = .ok (.istore_n 1, 1) := by decide +kernel
theorem dX5_digest_43 : decode cX5_digest 43 = .ok (.iconst 0, 1) := by decide +kernel
theorem dX5_digest_44 : decode cX5_digest 44 = .ok (.istore_n 2, 1) := by decide +kernel
theorem dX5_digest_45 : decode cX5_digest 45 = .ok (.iload_n 2, 1) := by decide +kernel
theorem dX5_digest_46 : decode cX5_digest 46 = .ok (.aload_n 0, 1) := by decide +kernel
theorem dX5_digest_47 : decode cX5_digest 47 = .ok (.getfield 111, 3) := by decide +kernel
theorem dX5_digest_50 : decode cX5_digest 50 = .ok (.if_icmp .ge 49, 3) := by decide +kernel
theorem dX5_digest_53 : decode cX5_digest 53 = .ok (.aload_n 0, 1) := by decide +kernel
theorem dX5_digest_54 : decode cX5_digest 54 = .ok (.aload_n 0, 1) := by decide +kernel
theorem dX5_digest_55 : decode cX5_digest 55 = .ok (.aload_n 0, 1) := by decide +kernel
theorem dX5_digest_56 : decode cX5_digest 56 = .ok (.iload_n 1, 1) := by decide +kernel
theorem dX5_digest_57 : decode cX5_digest 57 = .ok (.aload_n 0, 1) := by decide +kernel
theorem dX5_digest_58 : decode cX5_digest 58 = .ok (.getfield 7, 3) := by decide +kernel
theorem dX5_digest_61 : decode cX5_digest 61 = .ok (.iload_n 2, 1) := by decide +kernel
theorem dX5_digest_62 : decode cX5_digest 62 = .ok (.iaload, 1) := by decide +kernel
theorem dX5_digest_63 : decode cX5_digest 63 = .ok (.invokevirtual 245, 3) := by decide +kernel
theorem dX5_digest_66 : decode cX5_digest 66 = .ok (.aload_n 0, 1) := by decide +kernel
theorem dX5_digest_67 : decode cX5_digest 67 = .ok (.getfield 13, 3) := by decide +kernel
theorem dX5_digest_70 : decode cX5_digest 70 = .ok (.iload_n 2, 1) := by decide +kernel
theorem dX5_digest_71 : decode cX5_digest 71 = .ok (.iaload, 1) := by decide +kernel
theorem dX5_digest_72 : decode cX5_digest 72 = .ok (.invokevirtual 245, 3) := by decide +kernel
theorem dX5_digest_75 : decode cX5_digest 75 = .ok (.aload_n 0, 1) := by decide +kernel
theorem dX5_digest_76 : decode cX5_digest 76 = .ok (.getfield 16, 3) := by decide +kernel
theorem dX5_digest_79 : decode cX5_digest 79 = .ok (.iload_n 2, 1) := by decide +kernel
theorem dX5_digest_80 : decode cX5_digest 80 = .ok (.baload, 1) := by decide +kernel
theorem dX5_digest_81 : decode cX5_digest 81 = .ok (.ifCond .eq 7, 3) := by decide +kernel
end
section
theorem dX5_digest_84 : decode cX5_digest 84 = .ok (.iconst 1, 1) := by decide +kernel
theorem dX5_digest_85 : decode cX5_digest 85 = .ok (.goto 4, 3) := by decide +kernel
theorem dX5_digest_88 : decode cX5_digest 88 = .ok (.iconst 0, 1) := by decide +kernel
theorem dX5_digest_89 : decode cX5_digest 89 = .ok (.invokevirtual 245, 3) := by decide +kernel
theorem dX5_digest_92 : decode cX5_digest 92 = .ok (.istore_n 1, 1) := by decide +kernel
theorem dX5_digest_93 : decode cX5_digest 93 = .ok (.iinc 2 1, 3) := by decide +kernel
theorem dX5_digest_96 : decode cX5_digest 96 = .ok (.goto (-51), 3) := by decide +kernel
theorem dX5_digest_99 : decode cX5_digest 99 = .ok (.iconst 0, 1) := by decide +kernel
theorem dX5_digest_100 : decode cX5_digest 100 = .ok (.istore_n 2, 1) := by decide +kernel
theorem dX5_digest_101 : decode cX5_digest 101 = .ok (.iload_n 2, 1) := by decide +kernel
theorem dX5_digest_102 : decode cX5_digest 102 = .ok (.aload_n 0, 1) := by decide +kernel
theorem dX5_digest_103 : decode cX5_digest 103 = .ok (.getfield 114, 3) := by decide +kernel
theorem dX5_digest_106 : decode cX5_digest 106 = .ok (.if_icmp .ge 31, 3) := by decide +kernel
theorem dX5_digest_109 : decode cX5_digest 109 = .ok (.aload_n 0, 1) := by decide +kernel
theorem dX5_digest_110 : decode cX5_digest 110 = .ok (.aload_n 0, 1) := by decide +kernel
theorem dX5_digest_111 : decode cX5_digest 111 = .ok (.iload_n 1, 1) := by decide +kernel
theorem dX5_digest_112 : decode cX5_digest 112 = .ok (.aload_n 0, 1) := by decide +kernel
theorem dX5_digest_113 : decode cX5_digest 113 = .ok (.getfield 20, 3) := by decide +kernel
theorem dX5_digest_116 : decode cX5_digest 116 = .ok (.iload_n 2, 1) := by decide +kernel
theorem dX5_digest_117 : decode cX5_digest 117 = .ok (.iaload, 1) := by decide +kernel
theorem dX5_digest_118 : decode cX5_digest 118 = .ok (.invokevirtual 245, 3) := by decide +kernel
theorem dX5_digest_121 : decode cX5_digest 121 = .ok (.aload_n 0, 1) := by decide +kernel
theorem dX5_digest_122 : decode cX5_digest 122 = .ok (.getfield 23, 3) := by decide +kernel
theorem dX5_digest_125 : decode cX5_digest 125 = .ok (.iload_n 2, 1) := by decide +kernel
theorem dX5_digest_126 : decode cX5_digest 126 = .ok (.iaload, 1) := by decide +kernel
theorem dX5_digest_127 : decode cX5_digest 127 = .ok (.invokevirtual 245, 3) := by decide +kernel
theorem dX5_digest_130 : decode cX5_digest 130 = .ok (.istore_n 1, 1) := by decide +kernel
theorem dX5_digest_131 : decode cX5_digest 131 = .ok (.iinc 2 1, 3) := by decide +kernel
theorem dX5_digest_134 : decode cX5_digest 134 = .ok (.goto (-33), 3) := by decide +kernel
theorem dX5_digest_137 : decode cX5_digest 137 = .ok (.iconst 0, 1) := by decide +kernel
theorem dX5_digest_138 : decode cX5_digest 138 = .ok (.istore_n 2, 1) := by decide +kernel
theorem dX5_digest_139 : decode cX5_digest 139 = .ok (.iload_n 2, 1) := by decide +kernel
theorem dX5_digest_140 : decode cX5_digest 140 = .ok (.iconst 4, 1) := by decide +kernel
theorem dX5_digest_141 : decode cX5_digest 141 = .ok (.if_icmp .ge 61, 3) := by decide +kernel
theorem dX5_digest_144 : decode cX5_digest 144 = .ok (.iconst 0, 1) := by decide +kernel
theorem dX5_digest_145 : decode cX5_digest 145 = .ok (.istore_n 3, 1) := by decide +kernel
theorem dX5_digest_146 : decode cX5_digest 146 = .ok (.iload_n 3, 1) := by decide +kernel
theorem dX5_digest_147 : decode cX5_digest 147 = .ok (.bipush 7, 2) := by decide +kernel
theorem dX5_digest_149 : decode cX5_digest 149 = .ok (.if_icmp .ge 26, 3) := by decide +kernel
theorem dX5_digest_152 : decode cX5_digest 152 = .ok (.aload_n 0, 1) := by decide +kernel
theorem dX5_digest_153 : decode cX5_digest 153 = .ok (.iload_n 1, 1) := by decide +kernel
theorem dX5_digest_154 : decode cX5_digest 154 = .ok (.aload_n 0, 1) := by decide +kernel
theorem dX5_digest_155 : decode cX5_digest 155 = .ok (.getfield 53, 3) := by decide +kernel
theorem dX5_digest_158 : decode cX5_digest 158 = .ok (.bipush 7, 2) := by decide +kernel
theorem dX5_digest_160 : decode cX5_digest 160 = .ok (.iload_n 2, 1) := by decide +kernel
theorem dX5_digest_161 : decode cX5_digest 161 = .ok (.imul, 1) := by decide +kernel
theorem dX5_digest_162 : decode cX5_digest 162 = .ok (.iload_n 3, 1) := by decide +kernel
theorem dX5_digest_163 : decode cX5_digest 163 = .ok (.iadd, 1) := by decide +kernel
theorem dX5_digest_164 : decode cX5_digest 164 = .ok (.iaload, 1) := by decide +kernel
theorem dX5_digest_165 : decode cX5_digest 165 = .ok (.invokevirtual 245, 3) := by decide +kernel
theorem dX5_digest_168 : decode cX5_digest 168 = .ok (.istore_n 1, 1) := by decide +kernel
theorem dX5_digest_169 : decode cX5_digest 169 = .ok (.iinc 3 1, 3) := by decide +kernel
theorem dX5_digest_172 : decode cX5_digest 172 = .ok (.goto (-26), 3) := by decide +kernel
theorem dX5_digest_175 : decode cX5_digest 175 = .ok (.aload_n 0, 1) := by decide +kernel
theorem dX5_digest_176 : decode cX5_digest 176 = .ok (.aload_n 0, 1) := by decide +kernel
theorem dX5_digest_177 : decode cX5_digest 177 = .ok (.iload_n 1, 1) := by decide +kernel
theorem dX5_digest_178 : decode cX5_digest 178 = .ok (.aload_n 0, 1) := by decide +kernel
theorem dX5_digest_179 : decode cX5_digest 179 = .ok (.getfield 26, 3) := by decide +kernel
theorem dX5_digest_182 : decode cX5_digest 182 = .ok (.iload_n 2, 1) := by decide +kernel
theorem dX5_digest_183 : decode cX5_digest 183 = .ok (.iaload, 1) := by decide +kernel
theorem dX5_digest_184 : decode cX5_digest 184 = .ok (.invokevirtual 245, 3) := by decide +kernel
theorem dX5_digest_187 : decode cX5_digest 187 = .ok (.aload_n 0, 1) := by decide +kernel
theorem dX5_digest_188 : decode cX5_digest 188 = .ok (.iload_n 2, 1) := by decide +kernel
theorem dX5_digest_189 : decode cX5_digest 189 = .ok (.invokevirtual 187, 3) := by decide +kernel
theorem dX5_digest_192 : decode cX5_digest 192 = .ok (.invokevirtual 245, 3) := by decide +kernel
theorem dX5_digest_195 : decode cX5_digest 195 = .ok (.istore_n 1, 1) := by decide +kernel
theorem dX5_digest_196 : decode cX5_digest 196 = .ok (.iinc 2 1, 3) := by decide +kernel
theorem dX5_digest_199 : decode cX5_digest 199 = .ok (.goto (-60), 3) := by decide +kernel
theorem dX5_digest_202 : decode cX5_digest 202 = .ok (.iload_n 1, 1) := by decide +kernel
theorem dX5_digest_203 : decode cX5_digest 203 = .ok (.ireturn, 1) := by decide +kernel
theorem dJ9_floorMod_7cf53_0 : decode cJ9_floorMod_7cf53 0 = .ok (.iload_n 0, 1) := by decide +kernel
theorem dJ9_floorMod_7cf53_1 : decode cJ9_floorMod_7cf53 1 = .ok (.iload_n 1, 1) := by decide +kernel
theorem dJ9_floorMod_7cf53_2 : decode cJ9_floorMod_7cf53 2 = .ok (.irem, 1) := by decide +kernel
theorem dJ9_floorMod_7cf53_3 : decode cJ9_floorMod_7cf53 3 = .ok (.istore_n 2, 1) := by decide +kernel
theorem dJ9_floorMod_7cf53_4 : decode cJ9_floorMod_7cf53 4 = .ok (.iload_n 0, 1) := by decide +kernel
theorem dJ9_floorMod_7cf53_5 : decode cJ9_floorMod_7cf53 5 = .ok (.iload_n 1, 1) := by decide +kernel
theorem dJ9_floorMod_7cf53_6 : decode cJ9_floorMod_7cf53 6 = .ok (.ixor, 1) := by decide +kernel
theorem dJ9_floorMod_7cf53_7 : decode cJ9_floorMod_7cf53 7 = .ok (.ifCond .ge 11, 3) := by decide +kernel
theorem dJ9_floorMod_7cf53_10 : decode cJ9_floorMod_7cf53 10 = .ok (.iload_n 2, 1) := by decide +kernel
theorem dJ9_floorMod_7cf53_11 : decode cJ9_floorMod_7cf53 11 = .ok (.ifCond .eq 7, 3) := by decide +kernel
theorem dJ9_floorMod_7cf53_14 : decode cJ9_floorMod_7cf53 14 = .ok (.iload_n 2, 1) := by decide +kernel
theorem dJ9_floorMod_7cf53_15 : decode cJ9_floorMod_7cf53 15 = .ok (.iload_n 1, 1) := by decide +kernel
theorem dJ9_floorMod_7cf53_16 : decode cJ9_floorMod_7cf53 16 = .ok (.iadd, 1) := by decide +kernel
theorem dJ9_floorMod_7cf53_17 : decode cJ9_floorMod_7cf53 17 = .ok (.ireturn, 1) := by decide +kernel
theorem dJ9_floorMod_7cf53_18 : decode cJ9_floorMod_7cf53 18 = .ok (.iload_n 2, 1) := by decide +kernel
theorem dJ9_floorMod_7cf53_19 : decode cJ9_floorMod_7cf53 19 = .ok (.ireturn, 1) := by decide +kernel
theorem dJ9_abs_0f7a4_0 : decode cJ9_abs_0f7a4 0 = .ok (.iload_n 0, 1) := by decide +kernel
theorem dJ9_abs_0f7a4_1 : decode cJ9_abs_0f7a4 1 = .ok (.ifCond .ge 8, 3) := by decide +kernel
theorem dJ9_abs_0f7a4_4 : decode cJ9_abs_0f7a4 4 = .ok (.iload_n 0, 1) := by decide +kernel
theorem dJ9_abs_0f7a4_5 : decode cJ9_abs_0f7a4 5 = .ok (.ineg, 1) := by decide +kernel
theorem dJ9_abs_0f7a4_6 : decode cJ9_abs_0f7a4 6 = .ok (.goto 4, 3) := by decide +kernel
theorem dJ9_abs_0f7a4_9 : decode cJ9_abs_0f7a4 9 = .ok (.iload_n 0, 1) := by decide +kernel
theorem dJ9_abs_0f7a4_10 : decode cJ9_abs_0f7a4 10 = .ok (.ireturn, 1) := by decide +kernel
theorem dJ9_min_7cf53_0 : decode cJ9_min_7cf53 0 = .ok (.iload_n 0, 1) := by decide +kernel
theorem dJ9_min_7cf53_1 : decode cJ9_min_7cf53 1 = .ok (.iload_n 1, 1) := by decide +kernel
theorem dJ9_min_7cf53_2 : decode cJ9_min_7cf53 2 = .ok (.if_icmp .gt 7, 3) := by decide +kernel
theorem dJ9_min_7cf53_5 : decode cJ9_min_7cf53 5 = .ok (.iload_n 0, 1) := by decide +kernel
theorem dJ9_min_7cf53_6 : decode cJ9_min_7cf53 6 = .ok (.goto 4, 3) := by decide +kernel
theorem dJ9_min_7cf53_9 : decode cJ9_min_7cf53 9 = .ok (.iload_n 1, 1) := by decide +kernel
theorem dJ9_min_7cf53_10 : decode cJ9_min_7cf53 10 = .ok (.ireturn, 1) := by decide +kernel
theorem dJ7_fill_d0a16_0 : decode cJ7_fill_d0a16 0 = .ok (.iconst 0, 1) := by decide +kernel
theorem dJ7_fill_d0a16_1 : decode cJ7_fill_d0a16 1 = .ok (.istore_n 3, 1) := by decide +kernel
theorem dJ7_fill_d0a16_2 : decode cJ7_fill_d0a16 2 = .ok (.aload_n 0, 1) := by decide +kernel
theorem dJ7_fill_d0a16_3 : decode cJ7_fill_d0a16 3 = .ok (.arraylength, 1) := by decide +kernel
theorem dJ7_fill_d0a16_4 : decode cJ7_fill_d0a16 4 = .ok (.istore 4, 2) := by decide +kernel
theorem dJ7_fill_d0a16_6 : decode cJ7_fill_d0a16 6 = .ok (.iload_n 3, 1) := by decide +kernel
theorem dJ7_fill_d0a16_7 : decode cJ7_fill_d0a16 7 = .ok (.iload 4, 2) := by decide +kernel
theorem dJ7_fill_d0a16_9 : decode cJ7_fill_d0a16 9 = .ok (.if_icmp .ge 13, 3) := by decide +kernel
theorem dJ7_fill_d0a16_12 : decode cJ7_fill_d0a16 12 = .ok (.aload_n 0, 1) := by decide +kernel
theorem dJ7_fill_d0a16_13 : decode cJ7_fill_d0a16 13 = .ok (.iload_n 3, 1) := by decide +kernel
theorem dJ7_fill_d0a16_14 : decode cJ7_fill_d0a16 14 = .ok (.lload_n 1, 1) := by decide +kernel
theorem dJ7_fill_d0a16_15 : decode cJ7_fill_d0a16 15 = .ok (.lastore, 1) := by decide +kernel
theorem dJ7_fill_d0a16_16 : decode cJ7_fill_d0a16 16 = .ok (.iinc 3 1, 3) := by decide +kernel
theorem dJ7_fill_d0a16_19 : decode cJ7_fill_d0a16 19 = .ok (.goto (-13), 3) := by decide +kernel
theorem dJ7_fill_d0a16_22 : decode cJ7_fill_d0a16 22 = .ok (.return_, 1) := by decide +kernel
theorem dJ7_fill_53178_0 : decode cJ7_fill_53178 0 = .ok (.iconst 0, 1) := by decide +kernel
theorem dJ7_fill_53178_1 : decode cJ7_fill_53178 1 = .ok (.istore_n 2, 1) := by decide +kernel
theorem dJ7_fill_53178_2 : decode cJ7_fill_53178 2 = .ok (.aload_n 0, 1) := by decide +kernel
theorem dJ7_fill_53178_3 : decode cJ7_fill_53178 3 = .ok (.arraylength, 1) := by decide +kernel
theorem dJ7_fill_53178_4 : decode cJ7_fill_53178 4 = .ok (.istore_n 3, 1) := by decide +kernel
theorem dJ7_fill_53178_5 : decode cJ7_fill_53178 5 = .ok (.iload_n 2, 1) := by decide +kernel
theorem dJ7_fill_53178_6 : decode cJ7_fill_53178 6 = .ok (.iload_n 3, 1) := by decide +kernel
theorem dJ7_fill_53178_7 : decode cJ7_fill_53178 7 = .ok (.if_icmp .ge 13, 3) := by decide +kernel
theorem dJ7_fill_53178_10 : decode cJ7_fill_53178 10 = .ok (.aload_n 0, 1) := by decide +kernel
theorem dJ7_fill_53178_11 : decode cJ7_fill_53178 11 = .ok (.iload_n 2, 1) := by decide +kernel
theorem dJ7_fill_53178_12 : decode cJ7_fill_53178 12 = .ok (.iload_n 1, 1) := by decide +kernel
theorem dJ7_fill_53178_13 : decode cJ7_fill_53178 13 = .ok (.iastore, 1) := by decide +kernel
theorem dJ7_fill_53178_14 : decode cJ7_fill_53178 14 = .ok (.iinc 2 1, 3) := by decide +kernel
theorem dJ7_fill_53178_17 : decode cJ7_fill_53178 17 = .ok (.goto (-12), 3) := by decide +kernel
theorem dJ7_fill_53178_20 : decode cJ7_fill_53178 20 = .ok (.return_, 1) := by decide +kernel
theorem dL_law_0 : decode cL_law 0 = .ok (.new 7, 3) := by decide +kernel
theorem dL_law_3 : decode cL_law 3 = .ok (.dup, 1) := by decide +kernel
theorem dL_law_4 : decode cL_law 4 = .ok (.invokespecial 9, 3) := by decide +kernel
theorem dL_law_7 : decode cL_law 7 = .ok (.astore_n 1, 1) := by decide +kernel
theorem dL_law_8 : decode cL_law 8 = .ok (.new 10, 3) := by decide +kernel
theorem dL_law_11 : decode cL_law 11 = .ok (.dup, 1) := by decide +kernel
theorem dL_law_12 : decode cL_law 12 = .ok (.invokespecial 12, 3) := by decide +kernel
theorem dL_law_15 : decode cL_law 15 = .ok (.astore_n 2, 1) := by decide +kernel
theorem dL_law_16 : decode cL_law 16 = .ok (.iconst 0, 1) := by decide +kernel
theorem dL_law_17 : decode cL_law 17 = .ok (.istore_n 3, 1) := by decide +kernel
theorem dL_law_18 : decode cL_law 18 = .ok (.iload_n 3, 1) := by decide +kernel
theorem dL_law_19 : decode cL_law 19 = .ok (.aload_n 0, 1) := by decide +kernel
theorem dL_law_20 : decode cL_law 20 = .ok (.arraylength, 1) := by decide +kernel
theorem dL_law_21 : decode cL_law 21 = .ok (.iconst 4, 1) := by decide +kernel
theorem dL_law_22 : decode cL_law 22 = .ok (.isub, 1) := by decide +kernel
theorem dL_law_23 : decode cL_law 23 = .ok (.if_icmp .gt 573, 3) := by decide +kernel
theorem dL_law_26 : decode cL_law 26 = .ok (.aload_n 0, 1) := by decide +kernel
theorem dL_law_27 : decode cL_law 27 = .ok (.iload_n 3, 1) := by decide +kernel
theorem dL_law_28 : decode cL_law 28 = .ok (.iaload, 1) := by decide +kernel
theorem dL_law_29 : decode cL_law 29 = .ok (.bipush 15, 2) := by decide +kernel
theorem dL_law_31 : decode cL_law 31 = .ok (.iand, 1) := by decide +kernel
theorem dL_law_32 : decode cL_law 32 = .ok (.tableswitch 558 0 15 #[80, 123, 156, 199, 242, 275, 298, 331, 354, 387, 420, 453, 476, 499, 522, 545], 80) := by decide +kernel
theorem dL_law_112 : decode cL_law 112 = .ok (.aload_n 1, 1) := by decide +kernel
theorem dL_law_113 : decode cL_law 113 = .ok (.aload_n 0, 1) := by decide +kernel
theorem dL_law_114 : decode cL_law 114 = .ok (.iload_n 3, 1) := by decide +kernel
theorem dL_law_115 : decode cL_law 115 = .ok (.iconst 1, 1) := by decide +kernel
theorem dL_law_116 : decode cL_law 116 = .ok (.iadd, 1) := by decide +kernel
theorem dL_law_117 : decode cL_law 117 = .ok (.iaload, 1) := by decide +kernel
theorem dL_law_118 : decode cL_law 118 = .ok (.aload_n 0, 1) := by decide +kernel
theorem dL_law_119 : decode cL_law 119 = .ok (.iload_n 3, 1) := by decide +kernel
theorem dL_law_120 : decode cL_law 120 = .ok (.iconst 2, 1) := by decide +kernel
theorem dL_law_121 : decode cL_law 121 = .ok (.iadd, 1) := by decide +kernel
theorem dL_law_122 : decode cL_law 122 = .ok (.iaload, 1) := by decide +kernel
theorem dL_law_123 : decode cL_law 123 = .ok (.aload_n 0, 1) := by decide +kernel
theorem dL_law_124 : decode cL_law 124 = .ok (.iload_n 3, 1) := by decide +kernel
theorem dL_law_125 : decode cL_law 125 = .ok (.iconst 3, 1) := by decide +kernel
theorem dL_law_126 : decode cL_law 126 = .ok (.iadd, 1) := by decide +kernel
theorem dL_law_127 : decode cL_law 127 = .ok (.iaload, 1) := by decide +kernel
theorem dL_law_128 : decode cL_law 128 = .ok (.invokevirtual 13, 3) := by decide +kernel
theorem dL_law_131 : decode cL_law 131 = .ok (.aload_n 2, 1) := by decide +kernel
theorem dL_law_132 : decode cL_law 132 = .ok (.aload_n 0, 1) := by decide +kernel
theorem dL_law_133 : decode cL_law 133 = .ok (.iload_n 3, 1) := by decide +kernel
theorem dL_law_134 : decode cL_law 134 = .ok (.iconst 1, 1) := by decide +kernel
theorem dL_law_135 : decode cL_law 135 = .ok (.iadd, 1) := by decide +kernel
theorem dL_law_136 : decode cL_law 136 = .ok (.iaload, 1) := by decide +kernel
theorem dL_law_137 : decode cL_law 137 = .ok (.aload_n 0, 1) := by decide +kernel
theorem dL_law_138 : decode cL_law 138 = .ok (.iload_n 3, 1) := by decide +kernel
theorem dL_law_139 : decode cL_law 139 = .ok (.iconst 2, 1) := by decide +kernel
theorem dL_law_140 : decode cL_law 140 = .ok (.iadd, 1) := by decide +kernel
theorem dL_law_141 : decode cL_law 141 = .ok (.iaload, 1) := by decide +kernel
theorem dL_law_142 : decode cL_law 142 = .ok (.aload_n 0, 1) := by decide +kernel
theorem dL_law_143 : decode cL_law 143 = .ok (.iload_n 3, 1) := by decide +kernel
theorem dL_law_144 : decode cL_law 144 = .ok (.iconst 3, 1) := by decide +kernel
theorem dL_law_145 : decode cL_law 145 = .ok (.iadd, 1) := by decide +kernel
theorem dL_law_146 : decode cL_law 146 = .ok (.iaload, 1) := by decide +kernel
theorem dL_law_147 : decode cL_law 147 = .ok (.invokevirtual 17, 3) := by decide +kernel
theorem dL_law_150 : decode cL_law 150 = .ok (.if_icmp .eq 440, 3) := by decide +kernel
theorem dL_law_153 : decode cL_law 153 = .ok (.iconst 0, 1) := by decide +kernel
theorem dL_law_154 : decode cL_law 154 = .ok (.ireturn, 1) := by decide +kernel
theorem dL_law_155 : decode cL_law 155 = .ok (.aload_n 1, 1) := by decide +kernel
theorem dL_law_156 : decode cL_law 156 = .ok (.aload_n 0, 1) := by decide +kernel
theorem dL_law_157 : decode cL_law 157 = .ok (.iload_n 3, 1) := by decide +kernel
theorem dL_law_158 : decode cL_law 158 = .ok (.iconst 1, 1) := by decide +kernel
theorem dL_law_159 : decode cL_law 159 = .ok (.iadd, 1) := by decide +kernel
theorem dL_law_160 : decode cL_law 160 = .ok (.iaload, 1) := by decide +kernel
theorem dL_law_161 : decode cL_law 161 = .ok (.aload_n 0, 1) := by decide +kernel
theorem dL_law_162 : decode cL_law 162 = .ok (.iload_n 3, 1) := by decide +kernel
theorem dL_law_163 : decode cL_law 163 = .ok (.iconst 2, 1) := by decide +kernel
theorem dL_law_164 : decode cL_law 164 = .ok (.iadd, 1) := by decide +kernel
theorem dL_law_165 : decode cL_law 165 = .ok (.iaload, 1) := by decide +kernel
theorem dL_law_166 : decode cL_law 166 = .ok (.invokevirtual 18, 3) := by decide +kernel
theorem dL_law_169 : decode cL_law 169 = .ok (.aload_n 2, 1) := by decide +kernel
theorem dL_law_170 : decode cL_law 170 = .ok (.aload_n 0, 1) := by decide +kernel
theorem dL_law_171 : decode cL_law 171 = .ok (.iload_n 3, 1) := by decide +kernel
theorem dL_law_172 : decode cL_law 172 = .ok (.iconst 1, 1) := by decide +kernel
theorem dL_law_173 : decode cL_law 173 = .ok (.iadd, 1) := by decide +kernel
theorem dL_law_174 : decode cL_law 174 = .ok (.iaload, 1) := by decide +kernel
theorem dL_law_175 : decode cL_law 175 = .ok (.aload_n 0, 1) := by decide +kernel
theorem dL_law_176 : decode cL_law 176 = .ok (.iload_n 3, 1) := by decide +kernel
theorem dL_law_177 : decode cL_law 177 = .ok (.iconst 2, 1) := by decide +kernel
theorem dL_law_178 : decode cL_law 178 = .ok (.iadd, 1) := by decide +kernel
theorem dL_law_179 : decode cL_law 179 = .ok (.iaload, 1) := by decide +kernel
theorem dL_law_180 : decode cL_law 180 = .ok (.invokevirtual 22, 3) := by decide +kernel
theorem dL_law_183 : decode cL_law 183 = .ok (.if_icmp .eq 407, 3) := by decide +kernel
theorem dL_law_186 : decode cL_law 186 = .ok (.iconst 0, 1) := by decide +kernel
theorem dL_law_187 : decode cL_law 187 = .ok (.ireturn, 1) := by decide +kernel
theorem dL_law_188 : decode cL_law 188 = .ok (.aload_n 1, 1) := by decide +kernel
theorem dL_law_189 : decode cL_law 189 = .ok (.aload_n 0, 1) := by decide +kernel
theorem dL_law_190 : decode cL_law 190 = .ok (.iload_n 3, 1) := by decide +kernel
theorem dL_law_191 : decode cL_law 191 = .ok (.iconst 1, 1) := by decide +kernel
theorem dL_law_192 : decode cL_law 192 = .ok (.iadd, 1) := by decide +kernel
theorem dL_law_193 : decode cL_law 193 = .ok (.iaload, 1) := by decide +kernel
theorem dL_law_194 : decode cL_law 194 = .ok (.aload_n 0, 1) := by decide +kernel
theorem dL_law_195 : decode cL_law 195 = .ok (.iload_n 3, 1) := by decide +kernel
theorem dL_law_196 : decode cL_law 196 = .ok (.iconst 2, 1) := by decide +kernel
theorem dL_law_197 : decode cL_law 197 = .ok (.iadd, 1) := by decide +kernel
theorem dL_law_198 : decode cL_law 198 = .ok (.iaload, 1) := by decide +kernel
theorem dL_law_199 : decode cL_law 199 = .ok (.aload_n 0, 1) := by decide +kernel
theorem dL_law_200 : decode cL_law 200 = .ok (.iload_n 3, 1) := by decide +kernel
theorem dL_law_201 : decode cL_law 201 = .ok (.iconst 3, 1) := by decide +kernel
theorem dL_law_202 : decode cL_law 202 = .ok (.iadd, 1) := by decide +kernel
theorem dL_law_203 : decode cL_law 203 = .ok (.iaload, 1) := by decide +kernel
theorem dL_law_204 : decode cL_law 204 = .ok (.invokevirtual 23, 3) := by decide +kernel
theorem dL_law_207 : decode cL_law 207 = .ok (.aload_n 2, 1) := by decide +kernel
theorem dL_law_208 : decode cL_law 208 = .ok (.aload_n 0, 1) := by decide +kernel
theorem dL_law_209 : decode cL_law 209 = .ok (.iload_n 3, 1) := by decide +kernel
theorem dL_law_210 : decode cL_law 210 = .ok (.iconst 1, 1) := by decide +kernel
theorem dL_law_211 : decode cL_law 211 = .ok (.iadd, 1) := by decide +kernel
theorem dL_law_212 : decode cL_law 212 = .ok (.iaload, 1) := by decide +kernel
theorem dL_law_213 : decode cL_law 213 = .ok (.aload_n 0, 1) := by decide +kernel
theorem dL_law_214 : decode cL_law 214 = .ok (.iload_n 3, 1) := by decide +kernel
theorem dL_law_215 : decode cL_law 215 = .ok (.iconst 2, 1) := by decide +kernel
theorem dL_law_216 : decode cL_law 216 = .ok (.iadd, 1) := by decide +kernel
theorem dL_law_217 : decode cL_law 217 = .ok (.iaload, 1) := by decide +kernel
theorem dL_law_218 : decode cL_law 218 = .ok (.aload_n 0, 1) := by decide +kernel
theorem dL_law_219 : decode cL_law 219 = .ok (.iload_n 3, 1) := by decide +kernel
theorem dL_law_220 : decode cL_law 220 = .ok (.iconst 3, 1) := by decide +kernel
theorem dL_law_221 : decode cL_law 221 = .ok (.iadd, 1) := by decide +kernel
theorem dL_law_222 : decode cL_law 222 = .ok (.iaload, 1) := by decide +kernel
theorem dL_law_223 : decode cL_law 223 = .ok (.invokevirtual 26, 3) := by decide +kernel
theorem dL_law_226 : decode cL_law 226 = .ok (.if_icmp .eq 364, 3) := by decide +kernel
theorem dL_law_229 : decode cL_law 229 = .ok (.iconst 0, 1) := by decide +kernel
theorem dL_law_230 : decode cL_law 230 = .ok (.ireturn, 1) := by decide +kernel
theorem dL_law_231 : decode cL_law 231 = .ok (.aload_n 1, 1) := by decide +kernel
theorem dL_law_232 : decode cL_law 232 = .ok (.aload_n 0, 1) := by decide +kernel
theorem dL_law_233 : decode cL_law 233 = .ok (.iload_n 3, 1) := by decide +kernel
theorem dL_law_234 : decode cL_law 234 = .ok (.iconst 1, 1) := by decide +kernel
theorem dL_law_235 : decode cL_law 235 = .ok (.iadd, 1) := by decide +kernel
theorem dL_law_236 : decode cL_law 236 = .ok (.iaload, 1) := by decide +kernel
theorem dL_law_237 : decode cL_law 237 = .ok (.aload_n 0, 1) := by decide +kernel
theorem dL_law_238 : decode cL_law 238 = .ok (.iload_n 3, 1) := by decide +kernel
theorem dL_law_239 : decode cL_law 239 = .ok (.iconst 2, 1) := by decide +kernel
theorem dL_law_240 : decode cL_law 240 = .ok (.iadd, 1) := by decide +kernel
theorem dL_law_241 : decode cL_law 241 = .ok (.iaload, 1) := by decide +kernel
theorem dL_law_242 : decode cL_law 242 = .ok (.aload_n 0, 1) := by decide +kernel
theorem dL_law_243 : decode cL_law 243 = .ok (.iload_n 3, 1) := by decide +kernel
theorem dL_law_244 : decode cL_law 244 = .ok (.iconst 3, 1) := by decide +kernel
theorem dL_law_245 : decode cL_law 245 = .ok (.iadd, 1) := by decide +kernel
theorem dL_law_246 : decode cL_law 246 = .ok (.iaload, 1) := by decide +kernel
theorem dL_law_247 : decode cL_law 247 = .ok (.invokevirtual 27, 3) := by decide +kernel
theorem dL_law_250 : decode cL_law 250 = .ok (.aload_n 2, 1) := by decide +kernel
theorem dL_law_251 : decode cL_law 251 = .ok (.aload_n 0, 1) := by decide +kernel
theorem dL_law_252 : decode cL_law 252 = .ok (.iload_n 3, 1) := by decide +kernel
theorem dL_law_253 : decode cL_law 253 = .ok (.iconst 1, 1) := by decide +kernel
theorem dL_law_254 : decode cL_law 254 = .ok (.iadd, 1) := by decide +kernel
theorem dL_law_255 : decode cL_law 255 = .ok (.iaload, 1) := by decide +kernel
theorem dL_law_256 : decode cL_law 256 = .ok (.aload_n 0, 1) := by decide +kernel
theorem dL_law_257 : decode cL_law 257 = .ok (.iload_n 3, 1) := by decide +kernel
theorem dL_law_258 : decode cL_law 258 = .ok (.iconst 2, 1) := by decide +kernel
theorem dL_law_259 : decode cL_law 259 = .ok (.iadd, 1) := by decide +kernel
theorem dL_law_260 : decode cL_law 260 = .ok (.iaload, 1) := by decide +kernel
theorem dL_law_261 : decode cL_law 261 = .ok (.aload_n 0, 1) := by decide +kernel
theorem dL_law_262 : decode cL_law 262 = .ok (.iload_n 3, 1) := by decide +kernel
theorem dL_law_263 : decode cL_law 263 = .ok (.iconst 3, 1) := by decide +kernel
theorem dL_law_264 : decode cL_law 264 = .ok (.iadd, 1) := by decide +kernel
theorem dL_law_265 : decode cL_law 265 = .ok (.iaload, 1) := by decide +kernel
theorem dL_law_266 : decode cL_law 266 = .ok (.invokevirtual 30, 3) := by decide +kernel
theorem dL_law_269 : decode cL_law 269 = .ok (.if_icmp .eq 321, 3) := by decide +kernel
theorem dL_law_272 : decode cL_law 272 = .ok (.iconst 0, 1) := by decide +kernel
theorem dL_law_273 : decode cL_law 273 = .ok (.ireturn, 1) := by decide +kernel
theorem dL_law_274 : decode cL_law 274 = .ok (.aload_n 1, 1) := by decide +kernel
theorem dL_law_275 : decode cL_law 275 = .ok (.aload_n 0, 1) := by decide +kernel
theorem dL_law_276 : decode cL_law 276 = .ok (.iload_n 3, 1) := by decide +kernel
theorem dL_law_277 : decode cL_law 277 = .ok (.iconst 1, 1) := by decide +kernel
theorem dL_law_278 : decode cL_law 278 = .ok (.iadd, 1) := by decide +kernel
theorem dL_law_279 : decode cL_law 279 = .ok (.iaload, 1) := by decide +kernel
theorem dL_law_280 : decode cL_law 280 = .ok (.aload_n 0, 1) := by decide +kernel
theorem dL_law_281 : decode cL_law 281 = .ok (.iload_n 3, 1) := by decide +kernel
theorem dL_law_282 : decode cL_law 282 = .ok (.iconst 2, 1) := by decide +kernel
theorem dL_law_283 : decode cL_law 283 = .ok (.iadd, 1) := by decide +kernel
theorem dL_law_284 : decode cL_law 284 = .ok (.iaload, 1) := by decide +kernel
theorem dL_law_285 : decode cL_law 285 = .ok (.invokevirtual 31, 3) := by decide +kernel
theorem dL_law_288 : decode cL_law 288 = .ok (.aload_n 2, 1) := by decide +kernel
theorem dL_law_289 : decode cL_law 289 = .ok (.aload_n 0, 1) := by decide +kernel
theorem dL_law_290 : decode cL_law 290 = .ok (.iload_n 3, 1) := by decide +kernel
theorem dL_law_291 : decode cL_law 291 = .ok (.iconst 1, 1) := by decide +kernel
theorem dL_law_292 : decode cL_law 292 = .ok (.iadd, 1) := by decide +kernel
theorem dL_law_293 : decode cL_law 293 = .ok (.iaload, 1) := by decide +kernel
theorem dL_law_294 : decode cL_law 294 = .ok (.aload_n 0, 1) := by decide +kernel
theorem dL_law_295 : decode cL_law 295 = .ok (.iload_n 3, 1) := by decide +kernel
theorem dL_law_296 : decode cL_law 296 = .ok (.iconst 2, 1) := by decide +kernel
theorem dL_law_297 : decode cL_law 297 = .ok (.iadd, 1) := by decide +kernel
theorem dL_law_298 : decode cL_law 298 = .ok (.iaload, 1) := by decide +kernel
theorem dL_law_299 : decode cL_law 299 = .ok (.invokevirtual 34, 3) := by decide +kernel
theorem dL_law_302 : decode cL_law 302 = .ok (.if_icmp .eq 288, 3) := by decide +kernel
theorem dL_law_305 : decode cL_law 305 = .ok (.iconst 0, 1) := by decide +kernel
theorem dL_law_306 : decode cL_law 306 = .ok (.ireturn, 1) := by decide +kernel
theorem dL_law_307 : decode cL_law 307 = .ok (.aload_n 1, 1) := by decide +kernel
theorem dL_law_308 : decode cL_law 308 = .ok (.aload_n 0, 1) := by decide +kernel
theorem dL_law_309 : decode cL_law 309 = .ok (.iload_n 3, 1) := by decide +kernel
theorem dL_law_310 : decode cL_law 310 = .ok (.iconst 1, 1) := by decide +kernel
theorem dL_law_311 : decode cL_law 311 = .ok (.iadd, 1) := by decide +kernel
theorem dL_law_312 : decode cL_law 312 = .ok (.iaload, 1) := by decide +kernel
theorem dL_law_313 : decode cL_law 313 = .ok (.invokevirtual 35, 3) := by decide +kernel
theorem dL_law_316 : decode cL_law 316 = .ok (.aload_n 2, 1) := by decide +kernel
theorem dL_law_317 : decode cL_law 317 = .ok (.aload_n 0, 1) := by decide +kernel
theorem dL_law_318 : decode cL_law 318 = .ok (.iload_n 3, 1) := by decide +kernel
theorem dL_law_319 : decode cL_law 319 = .ok (.iconst 1, 1) := by decide +kernel
theorem dL_law_320 : decode cL_law 320 = .ok (.iadd, 1) := by decide +kernel
theorem dL_law_321 : decode cL_law 321 = .ok (.iaload, 1) := by decide +kernel
theorem dL_law_322 : decode cL_law 322 = .ok (.invokevirtual 39, 3) := by decide +kernel
theorem dL_law_325 : decode cL_law 325 = .ok (.if_icmp .eq 265, 3) := by decide +kernel
theorem dL_law_328 : decode cL_law 328 = .ok (.iconst 0, 1) := by decide +kernel
theorem dL_law_329 : decode cL_law 329 = .ok (.ireturn, 1) := by decide +kernel
theorem dL_law_330 : decode cL_law 330 = .ok (.aload_n 1, 1) := by decide +kernel
theorem dL_law_331 : decode cL_law 331 = .ok (.aload_n 0, 1) := by decide +kernel
theorem dL_law_332 : decode cL_law 332 = .ok (.iload_n 3, 1) := by decide +kernel
theorem dL_law_333 : decode cL_law 333 = .ok (.iconst 1, 1) := by decide +kernel
theorem dL_law_334 : decode cL_law 334 = .ok (.iadd, 1) := by decide +kernel
theorem dL_law_335 : decode cL_law 335 = .ok (.iaload, 1) := by decide +kernel
theorem dL_law_336 : decode cL_law 336 = .ok (.aload_n 0, 1) := by decide +kernel
theorem dL_law_337 : decode cL_law 337 = .ok (.iload_n 3, 1) := by decide +kernel
theorem dL_law_338 : decode cL_law 338 = .ok (.iconst 2, 1) := by decide +kernel
theorem dL_law_339 : decode cL_law 339 = .ok (.iadd, 1) := by decide +kernel
theorem dL_law_340 : decode cL_law 340 = .ok (.iaload, 1) := by decide +kernel
theorem dL_law_341 : decode cL_law 341 = .ok (.invokevirtual 40, 3) := by decide +kernel
theorem dL_law_344 : decode cL_law 344 = .ok (.aload_n 2, 1) := by decide +kernel
theorem dL_law_345 : decode cL_law 345 = .ok (.aload_n 0, 1) := by decide +kernel
theorem dL_law_346 : decode cL_law 346 = .ok (.iload_n 3, 1) := by decide +kernel
theorem dL_law_347 : decode cL_law 347 = .ok (.iconst 1, 1) := by decide +kernel
theorem dL_law_348 : decode cL_law 348 = .ok (.iadd, 1) := by decide +kernel
theorem dL_law_349 : decode cL_law 349 = .ok (.iaload, 1) := by decide +kernel
theorem dL_law_350 : decode cL_law 350 = .ok (.aload_n 0, 1) := by decide +kernel
theorem dL_law_351 : decode cL_law 351 = .ok (.iload_n 3, 1) := by decide +kernel
theorem dL_law_352 : decode cL_law 352 = .ok (.iconst 2, 1) := by decide +kernel
theorem dL_law_353 : decode cL_law 353 = .ok (.iadd, 1) := by decide +kernel
theorem dL_law_354 : decode cL_law 354 = .ok (.iaload, 1) := by decide +kernel
theorem dL_law_355 : decode cL_law 355 = .ok (.invokevirtual 43, 3) := by decide +kernel
theorem dL_law_358 : decode cL_law 358 = .ok (.if_icmp .eq 232, 3) := by decide +kernel
theorem dL_law_361 : decode cL_law 361 = .ok (.iconst 0, 1) := by decide +kernel
theorem dL_law_362 : decode cL_law 362 = .ok (.ireturn, 1) := by decide +kernel
theorem dL_law_363 : decode cL_law 363 = .ok (.aload_n 1, 1) := by decide +kernel
theorem dL_law_364 : decode cL_law 364 = .ok (.aload_n 0, 1) := by decide +kernel
theorem dL_law_365 : decode cL_law 365 = .ok (.iload_n 3, 1) := by decide +kernel
theorem dL_law_366 : decode cL_law 366 = .ok (.iconst 1, 1) := by decide +kernel
theorem dL_law_367 : decode cL_law 367 = .ok (.iadd, 1) := by decide +kernel
theorem dL_law_368 : decode cL_law 368 = .ok (.iaload, 1) := by decide +kernel
theorem dL_law_369 : decode cL_law 369 = .ok (.invokevirtual 44, 3) := by decide +kernel
theorem dL_law_372 : decode cL_law 372 = .ok (.aload_n 2, 1) := by decide +kernel
theorem dL_law_373 : decode cL_law 373 = .ok (.aload_n 0, 1) := by decide +kernel
theorem dL_law_374 : decode cL_law 374 = .ok (.iload_n 3, 1) := by decide +kernel
theorem dL_law_375 : decode cL_law 375 = .ok (.iconst 1, 1) := by decide +kernel
theorem dL_law_376 : decode cL_law 376 = .ok (.iadd, 1) := by decide +kernel
theorem dL_law_377 : decode cL_law 377 = .ok (.iaload, 1) := by decide +kernel
theorem dL_law_378 : decode cL_law 378 = .ok (.invokevirtual 47, 3) := by decide +kernel
theorem dL_law_381 : decode cL_law 381 = .ok (.if_icmp .eq 209, 3) := by decide +kernel
theorem dL_law_384 : decode cL_law 384 = .ok (.iconst 0, 1) := by decide +kernel
theorem dL_law_385 : decode cL_law 385 = .ok (.ireturn, 1) := by decide +kernel
theorem dL_law_386 : decode cL_law 386 = .ok (.aload_n 1, 1) := by decide +kernel
theorem dL_law_387 : decode cL_law 387 = .ok (.aload_n 0, 1) := by decide +kernel
theorem dL_law_388 : decode cL_law 388 = .ok (.iload_n 3, 1) := by decide +kernel
theorem dL_law_389 : decode cL_law 389 = .ok (.iconst 1, 1) := by decide +kernel
theorem dL_law_390 : decode cL_law 390 = .ok (.iadd, 1) := by decide +kernel
theorem dL_law_391 : decode cL_law 391 = .ok (.iaload, 1) := by decide +kernel
theorem dL_law_392 : decode cL_law 392 = .ok (.aload_n 0, 1) := by decide +kernel
theorem dL_law_393 : decode cL_law 393 = .ok (.iload_n 3, 1) := by decide +kernel
theorem dL_law_394 : decode cL_law 394 = .ok (.iconst 2, 1) := by decide +kernel
theorem dL_law_395 : decode cL_law 395 = .ok (.iadd, 1) := by decide +kernel
theorem dL_law_396 : decode cL_law 396 = .ok (.iaload, 1) := by decide +kernel
theorem dL_law_397 : decode cL_law 397 = .ok (.invokevirtual 48, 3) := by decide +kernel
theorem dL_law_400 : decode cL_law 400 = .ok (.aload_n 2, 1) := by decide +kernel
theorem dL_law_401 : decode cL_law 401 = .ok (.aload_n 0, 1) := by decide +kernel
theorem dL_law_402 : decode cL_law 402 = .ok (.iload_n 3, 1) := by decide +kernel
theorem dL_law_403 : decode cL_law 403 = .ok (.iconst 1, 1) := by decide +kernel
theorem dL_law_404 : decode cL_law 404 = .ok (.iadd, 1) := by decide +kernel
theorem dL_law_405 : decode cL_law 405 = .ok (.iaload, 1) := by decide +kernel
theorem dL_law_406 : decode cL_law 406 = .ok (.aload_n 0, 1) := by decide +kernel
theorem dL_law_407 : decode cL_law 407 = .ok (.iload_n 3, 1) := by decide +kernel
theorem dL_law_408 : decode cL_law 408 = .ok (.iconst 2, 1) := by decide +kernel
theorem dL_law_409 : decode cL_law 409 = .ok (.iadd, 1) := by decide +kernel
theorem dL_law_410 : decode cL_law 410 = .ok (.iaload, 1) := by decide +kernel
theorem dL_law_411 : decode cL_law 411 = .ok (.invokevirtual 51, 3) := by decide +kernel
theorem dL_law_414 : decode cL_law 414 = .ok (.if_icmp .eq 176, 3) := by decide +kernel
theorem dL_law_417 : decode cL_law 417 = .ok (.iconst 0, 1) := by decide +kernel
theorem dL_law_418 : decode cL_law 418 = .ok (.ireturn, 1) := by decide +kernel
theorem dL_law_419 : decode cL_law 419 = .ok (.aload_n 1, 1) := by decide +kernel
theorem dL_law_420 : decode cL_law 420 = .ok (.aload_n 0, 1) := by decide +kernel
theorem dL_law_421 : decode cL_law 421 = .ok (.iload_n 3, 1) := by decide +kernel
theorem dL_law_422 : decode cL_law 422 = .ok (.iconst 1, 1) := by decide +kernel
theorem dL_law_423 : decode cL_law 423 = .ok (.iadd, 1) := by decide +kernel
theorem dL_law_424 : decode cL_law 424 = .ok (.iaload, 1) := by decide +kernel
theorem dL_law_425 : decode cL_law 425 = .ok (.aload_n 0, 1) := by decide +kernel
theorem dL_law_426 : decode cL_law 426 = .ok (.iload_n 3, 1) := by decide +kernel
theorem dL_law_427 : decode cL_law 427 = .ok (.iconst 2, 1) := by decide +kernel
theorem dL_law_428 : decode cL_law 428 = .ok (.iadd, 1) := by decide +kernel
theorem dL_law_429 : decode cL_law 429 = .ok (.iaload, 1) := by decide +kernel
theorem dL_law_430 : decode cL_law 430 = .ok (.invokevirtual 52, 3) := by decide +kernel
theorem dL_law_433 : decode cL_law 433 = .ok (.aload_n 2, 1) := by decide +kernel
theorem dL_law_434 : decode cL_law 434 = .ok (.aload_n 0, 1) := by decide +kernel
theorem dL_law_435 : decode cL_law 435 = .ok (.iload_n 3, 1) := by decide +kernel
theorem dL_law_436 : decode cL_law 436 = .ok (.iconst 1, 1) := by decide +kernel
theorem dL_law_437 : decode cL_law 437 = .ok (.iadd, 1) := by decide +kernel
theorem dL_law_438 : decode cL_law 438 = .ok (.iaload, 1) := by decide +kernel
theorem dL_law_439 : decode cL_law 439 = .ok (.aload_n 0, 1) := by decide +kernel
theorem dL_law_440 : decode cL_law 440 = .ok (.iload_n 3, 1) := by decide +kernel
theorem dL_law_441 : decode cL_law 441 = .ok (.iconst 2, 1) := by decide +kernel
theorem dL_law_442 : decode cL_law 442 = .ok (.iadd, 1) := by decide +kernel
theorem dL_law_443 : decode cL_law 443 = .ok (.iaload, 1) := by decide +kernel
theorem dL_law_444 : decode cL_law 444 = .ok (.invokevirtual 55, 3) := by decide +kernel
theorem dL_law_447 : decode cL_law 447 = .ok (.if_icmp .eq 143, 3) := by decide +kernel
theorem dL_law_450 : decode cL_law 450 = .ok (.iconst 0, 1) := by decide +kernel
theorem dL_law_451 : decode cL_law 451 = .ok (.ireturn, 1) := by decide +kernel
theorem dL_law_452 : decode cL_law 452 = .ok (.aload_n 1, 1) := by decide +kernel
theorem dL_law_453 : decode cL_law 453 = .ok (.aload_n 0, 1) := by decide +kernel
theorem dL_law_454 : decode cL_law 454 = .ok (.iload_n 3, 1) := by decide +kernel
theorem dL_law_455 : decode cL_law 455 = .ok (.iconst 1, 1) := by decide +kernel
theorem dL_law_456 : decode cL_law 456 = .ok (.iadd, 1) := by decide +kernel
theorem dL_law_457 : decode cL_law 457 = .ok (.iaload, 1) := by decide +kernel
theorem dL_law_458 : decode cL_law 458 = .ok (.aload_n 0, 1) := by decide +kernel
theorem dL_law_459 : decode cL_law 459 = .ok (.iload_n 3, 1) := by decide +kernel
theorem dL_law_460 : decode cL_law 460 = .ok (.iconst 2, 1) := by decide +kernel
theorem dL_law_461 : decode cL_law 461 = .ok (.iadd, 1) := by decide +kernel
theorem dL_law_462 : decode cL_law 462 = .ok (.iaload, 1) := by decide +kernel
theorem dL_law_463 : decode cL_law 463 = .ok (.invokevirtual 56, 3) := by decide +kernel
theorem dL_law_466 : decode cL_law 466 = .ok (.aload_n 2, 1) := by decide +kernel
theorem dL_law_467 : decode cL_law 467 = .ok (.aload_n 0, 1) := by decide +kernel
theorem dL_law_468 : decode cL_law 468 = .ok (.iload_n 3, 1) := by decide +kernel
theorem dL_law_469 : decode cL_law 469 = .ok (.iconst 1, 1) := by decide +kernel
theorem dL_law_470 : decode cL_law 470 = .ok (.iadd, 1) := by decide +kernel
theorem dL_law_471 : decode cL_law 471 = .ok (.iaload, 1) := by decide +kernel
theorem dL_law_472 : decode cL_law 472 = .ok (.aload_n 0, 1) := by decide +kernel
theorem dL_law_473 : decode cL_law 473 = .ok (.iload_n 3, 1) := by decide +kernel
theorem dL_law_474 : decode cL_law 474 = .ok (.iconst 2, 1) := by decide +kernel
theorem dL_law_475 : decode cL_law 475 = .ok (.iadd, 1) := by decide +kernel
theorem dL_law_476 : decode cL_law 476 = .ok (.iaload, 1) := by decide +kernel
theorem dL_law_477 : decode cL_law 477 = .ok (.invokevirtual 59, 3) := by decide +kernel
theorem dL_law_480 : decode cL_law 480 = .ok (.if_icmp .eq 110, 3) := by decide +kernel
theorem dL_law_483 : decode cL_law 483 = .ok (.iconst 0, 1) := by decide +kernel
theorem dL_law_484 : decode cL_law 484 = .ok (.ireturn, 1) := by decide +kernel
theorem dL_law_485 : decode cL_law 485 = .ok (.aload_n 1, 1) := by decide +kernel
theorem dL_law_486 : decode cL_law 486 = .ok (.aload_n 0, 1) := by decide +kernel
theorem dL_law_487 : decode cL_law 487 = .ok (.iload_n 3, 1) := by decide +kernel
theorem dL_law_488 : decode cL_law 488 = .ok (.iconst 1, 1) := by decide +kernel
theorem dL_law_489 : decode cL_law 489 = .ok (.iadd, 1) := by decide +kernel
theorem dL_law_490 : decode cL_law 490 = .ok (.iaload, 1) := by decide +kernel
theorem dL_law_491 : decode cL_law 491 = .ok (.invokevirtual 60, 3) := by decide +kernel
theorem dL_law_494 : decode cL_law 494 = .ok (.aload_n 2, 1) := by decide +kernel
theorem dL_law_495 : decode cL_law 495 = .ok (.aload_n 0, 1) := by decide +kernel
theorem dL_law_496 : decode cL_law 496 = .ok (.iload_n 3, 1) := by decide +kernel
theorem dL_law_497 : decode cL_law 497 = .ok (.iconst 1, 1) := by decide +kernel
theorem dL_law_498 : decode cL_law 498 = .ok (.iadd, 1) := by decide +kernel
theorem dL_law_499 : decode cL_law 499 = .ok (.iaload, 1) := by decide +kernel
theorem dL_law_500 : decode cL_law 500 = .ok (.invokevirtual 63, 3) := by decide +kernel
theorem dL_law_503 : decode cL_law 503 = .ok (.if_icmp .eq 87, 3) := by decide +kernel
theorem dL_law_506 : decode cL_law 506 = .ok (.iconst 0, 1) := by decide +kernel
theorem dL_law_507 : decode cL_law 507 = .ok (.ireturn, 1) := by decide +kernel
theorem dL_law_508 : decode cL_law 508 = .ok (.aload_n 1, 1) := by decide +kernel
theorem dL_law_509 : decode cL_law 509 = .ok (.aload_n 0, 1) := by decide +kernel
theorem dL_law_510 : decode cL_law 510 = .ok (.iload_n 3, 1) := by decide +kernel
theorem dL_law_511 : decode cL_law 511 = .ok (.iconst 1, 1) := by decide +kernel
theorem dL_law_512 : decode cL_law 512 = .ok (.iadd, 1) := by decide +kernel
theorem dL_law_513 : decode cL_law 513 = .ok (.iaload, 1) := by decide +kernel
theorem dL_law_514 : decode cL_law 514 = .ok (.invokevirtual 64, 3) := by decide +kernel
theorem dL_law_517 : decode cL_law 517 = .ok (.aload_n 2, 1) := by decide +kernel
theorem dL_law_518 : decode cL_law 518 = .ok (.aload_n 0, 1) := by decide +kernel
theorem dL_law_519 : decode cL_law 519 = .ok (.iload_n 3, 1) := by decide +kernel
theorem dL_law_520 : decode cL_law 520 = .ok (.iconst 1, 1) := by decide +kernel
theorem dL_law_521 : decode cL_law 521 = .ok (.iadd, 1) := by decide +kernel
theorem dL_law_522 : decode cL_law 522 = .ok (.iaload, 1) := by decide +kernel
theorem dL_law_523 : decode cL_law 523 = .ok (.invokevirtual 67, 3) := by decide +kernel
theorem dL_law_526 : decode cL_law 526 = .ok (.if_icmp .eq 64, 3) := by decide +kernel
theorem dL_law_529 : decode cL_law 529 = .ok (.iconst 0, 1) := by decide +kernel
theorem dL_law_530 : decode cL_law 530 = .ok (.ireturn, 1) := by decide +kernel
theorem dL_law_531 : decode cL_law 531 = .ok (.aload_n 1, 1) := by decide +kernel
theorem dL_law_532 : decode cL_law 532 = .ok (.aload_n 0, 1) := by decide +kernel
theorem dL_law_533 : decode cL_law 533 = .ok (.iload_n 3, 1) := by decide +kernel
theorem dL_law_534 : decode cL_law 534 = .ok (.iconst 1, 1) := by decide +kernel
theorem dL_law_535 : decode cL_law 535 = .ok (.iadd, 1) := by decide +kernel
theorem dL_law_536 : decode cL_law 536 = .ok (.iaload, 1) := by decide +kernel
theorem dL_law_537 : decode cL_law 537 = .ok (.invokevirtual 68, 3) := by decide +kernel
theorem dL_law_540 : decode cL_law 540 = .ok (.aload_n 2, 1) := by decide +kernel
theorem dL_law_541 : decode cL_law 541 = .ok (.aload_n 0, 1) := by decide +kernel
theorem dL_law_542 : decode cL_law 542 = .ok (.iload_n 3, 1) := by decide +kernel
theorem dL_law_543 : decode cL_law 543 = .ok (.iconst 1, 1) := by decide +kernel
theorem dL_law_544 : decode cL_law 544 = .ok (.iadd, 1) := by decide +kernel
theorem dL_law_545 : decode cL_law 545 = .ok (.iaload, 1) := by decide +kernel
theorem dL_law_546 : decode cL_law 546 = .ok (.invokevirtual 71, 3) := by decide +kernel
theorem dL_law_549 : decode cL_law 549 = .ok (.if_icmp .eq 41, 3) := by decide +kernel
theorem dL_law_552 : decode cL_law 552 = .ok (.iconst 0, 1) := by decide +kernel
theorem dL_law_553 : decode cL_law 553 = .ok (.ireturn, 1) := by decide +kernel
theorem dL_law_554 : decode cL_law 554 = .ok (.aload_n 1, 1) := by decide +kernel
theorem dL_law_555 : decode cL_law 555 = .ok (.aload_n 0, 1) := by decide +kernel
theorem dL_law_556 : decode cL_law 556 = .ok (.iload_n 3, 1) := by decide +kernel
theorem dL_law_557 : decode cL_law 557 = .ok (.iconst 1, 1) := by decide +kernel
theorem dL_law_558 : decode cL_law 558 = .ok (.iadd, 1) := by decide +kernel
theorem dL_law_559 : decode cL_law 559 = .ok (.iaload, 1) := by decide +kernel
theorem dL_law_560 : decode cL_law 560 = .ok (.invokevirtual 72, 3) := by decide +kernel
theorem dL_law_563 : decode cL_law 563 = .ok (.aload_n 2, 1) := by decide +kernel
theorem dL_law_564 : decode cL_law 564 = .ok (.aload_n 0, 1) := by decide +kernel
theorem dL_law_565 : decode cL_law 565 = .ok (.iload_n 3, 1) := by decide +kernel
theorem dL_law_566 : decode cL_law 566 = .ok (.iconst 1, 1) := by decide +kernel
theorem dL_law_567 : decode cL_law 567 = .ok (.iadd, 1) := by decide +kernel
theorem dL_law_568 : decode cL_law 568 = .ok (.iaload, 1) := by decide +kernel
theorem dL_law_569 : decode cL_law 569 = .ok (.invokevirtual 75, 3) := by decide +kernel
theorem dL_law_572 : decode cL_law 572 = .ok (.if_icmp .eq 18, 3) := by decide +kernel
theorem dL_law_575 : decode cL_law 575 = .ok (.iconst 0, 1) := by decide +kernel
theorem dL_law_576 : decode cL_law 576 = .ok (.ireturn, 1) := by decide +kernel
theorem dL_law_577 : decode cL_law 577 = .ok (.aload_n 1, 1) := by decide +kernel
theorem dL_law_578 : decode cL_law 578 = .ok (.invokevirtual 76, 3) := by decide +kernel
theorem dL_law_581 : decode cL_law 581 = .ok (.aload_n 2, 1) := by decide +kernel
theorem dL_law_582 : decode cL_law 582 = .ok (.invokevirtual 80, 3) := by decide +kernel
theorem dL_law_585 : decode cL_law 585 = .ok (.if_icmp .eq 5, 3) := by decide +kernel
theorem dL_law_588 : decode cL_law 588 = .ok (.iconst 0, 1) := by decide +kernel
theorem dL_law_589 : decode cL_law 589 = .ok (.ireturn, 1) := by decide +kernel
theorem dL_law_590 : decode cL_law 590 = .ok (.iinc 3 4, 3) := by decide +kernel
theorem dL_law_593 : decode cL_law 593 = .ok (.goto (-575), 3) := by decide +kernel
theorem dL_law_596 : decode cL_law 596 = .ok (.iconst 1, 1) := by decide +kernel
theorem dL_law_597 : decode cL_law 597 = .ok (.ireturn, 1) := by decide +kernel
end
section
/-! THE PURE MACHINE: a method's walk over a world of numbered cells. A world is what the cells hold (ints, longs);
    a layout says of each number its class or array type and its length, and where its references point (numbers again). -/
abbrev pm_W : Type := (Nat → Nat → Int32) × (Nat → Nat → Int64)
abbrev pm_L : Type := (Nat → Nat × Nat) × (Nat → Nat → Option Nat)
abbrev pm_G : Type := (Nat → Nat) × (Nat → ClassId)
abbrev pm_M : Type := MethodName × ByteArray × Nat × Option FieldType × Nat × Nat
abbrev pm_cl : List vw_C := [(RX0, TX0, 10), (RX1, TX1, 9), (RX2, TX2, 5), (RX3, TX3, 11), (RX4, TX4, 4), (RX5, TX5, 39)]
def pm_T (ci : Nat) : u_T := match ci with
  | 0 => TX0
  | 1 => TX1
  | 2 => TX2
  | 3 => TX3
  | 4 => TX4
  | _ => TX5
def pm_R0 (ci : Nat) : String := match ci with
  | 0 => RX0
  | 1 => RX1
  | 2 => RX2
  | 3 => RX3
  | 4 => RX4
  | _ => RX5
def pm_N (ci : Nat) : Nat := match ci with
  | 0 => 10
  | 1 => 9
  | 2 => 5
  | 3 => 11
  | 4 => 4
  | _ => 39
def pm_ty (ci : Nat) : Nat → FieldType := match ci with
  | 0 => tyX0
  | 1 => tyX1
  | 2 => tyX2
  | 3 => tyX3
  | 4 => tyX4
  | _ => tyX5
theorem pm_cl_at {ci : Nat} (h : ci < 6) : pm_cl[ci]? = some (pm_R0 ci, pm_T ci, pm_N ci) := by
  match ci, h with
  | 0, _ => rfl
  | 1, _ => rfl
  | 2, _ => rfl
  | 3, _ => rfl
  | 4, _ => rfl
  | 5, _ => rfl
  | n + 6, h => exact absurd h (by omega)
theorem pm_nm {ci : Nat} (h : ci < 6) : ∀ a, a < pm_N ci → ∀ b, b < pm_N ci → a ≠ b → (pm_T ci a).2.1 ≠ (pm_T ci b).2.1 := by
  match ci, h with
  | 0, _ => exact nmX0
  | 1, _ => exact nmX1
  | 2, _ => exact nmX2
  | 3, _ => exact nmX3
  | 4, _ => exact nmX4
  | 5, _ => exact nmX5
  | n + 6, h => exact absurd h (by omega)
theorem pm_tyok {ci : Nat} (h : ci < 6) : ∀ k, k < pm_N ci → parseFieldDescriptor (pm_T ci k).2.2.1 = some (pm_ty ci k) := by
  match ci, h with
  | 0, _ => exact tyX0_ok
  | 1, _ => exact tyX1_ok
  | 2, _ => exact tyX2_ok
  | 3, _ => exact tyX3_ok
  | 4, _ => exact tyX4_ok
  | 5, _ => exact tyX5_ok
  | n + 6, h => exact absurd h (by omega)
/-- the words that every method may count on -/
def pm_good : List Jvm.Cond := lw_tbl.filter goodWord
def pm_ws (M : pm_M) : List Jvm.Cond := Jvm.Cond.code M.1 M.2.1 M.2.2.1 M.2.2.2.1 :: pm_good
def pm_rm (M : pm_M) : Room := { frames := M.2.2.2.2.1, cells := 0, slots := 0, locals := M.2.2.2.2.2 }
theorem pm_in {w : Jvm.Cond} (i : Nat) (h : lw_tbl[i]? = some w) (hg : goodWord w = true) : w ∈ pm_good := List.mem_filter.mpr ⟨List.mem_of_getElem? h, hg⟩
theorem pm_lays {ci : Nat} (h : ci < 6) : ∀ w ∈ u_ws (pm_R0 ci) (pm_T ci) (pm_N ci), w ∈ pm_good := by
  have key : ∀ (ws : List Jvm.Cond), ws.all (fun w => decide (w ∈ lw_tbl) && goodWord w) = true → ∀ w ∈ ws, w ∈ pm_good := by
    intro ws hw w hm
    have h1 := List.all_eq_true.mp hw w hm
    simp only [Bool.and_eq_true, decide_eq_true_eq] at h1
    exact List.mem_filter.mpr h1
  match ci, h with
  | 0, _ => exact key _ (by decide +kernel)
  | 1, _ => exact key _ (by decide +kernel)
  | 2, _ => exact key _ (by decide +kernel)
  | 3, _ => exact key _ (by decide +kernel)
  | 4, _ => exact key _ (by decide +kernel)
  | 5, _ => exact key _ (by decide +kernel)
  | n + 6, h => exact absurd h (by omega)
def pm_v (G : pm_G) : Value → Value
  | .ref k => .ref (G.1 k)
  | v => v
theorem pm_v_cat (G : pm_G) (v : Value) : (pm_v G v).category = v.category := by cases v <;> rfl
/-- what a field of type ty holds -/
def pm_fv (L : pm_L) (G : pm_G) (w : pm_W) (k : Nat) (ty : FieldType) (j : Nat) : Value := match ty with
  | .int => .int (w.1 k j)
  | .long => .long (w.2 k j)
  | _ => va_rf ((L.2 k j).map G.1)
def pm_cell (L : pm_L) (G : pm_G) (w : pm_W) (k : Nat) : va_E :=
  if (L.1 k).1 = 10 then .inl (G.2 10, (L.1 k).2, .inl (w.1 k))
  else if (L.1 k).1 = 11 then .inl (G.2 11, (L.1 k).2, .inl (w.1 k))
  else if (L.1 k).1 = 12 then .inl (G.2 12, (L.1 k).2, .inr (.inl (w.2 k)))
  else if (L.1 k).1 = 13 then .inl (G.2 13, (L.1 k).2, .inr (.inr (.inr (.inr (fun j => (L.2 k j).map G.1)))))
  else if (L.1 k).1 = 14 then .inl (G.2 14, (L.1 k).2, .inr (.inr (.inr (.inr (fun j => (L.2 k j).map G.1)))))
  else .inr ((L.1 k).1, (List.range (L.1 k).2).map (fun j => pm_fv L G w k (pm_ty (L.1 k).1 j) j))
/-- which numbers are there -/
def pm_ks (L : pm_L) : List Nat := (List.range 120).filter (fun k => !((L.1 k).1 == 99))
def pm_cells (L : pm_L) (G : pm_G) (w : pm_W) : va_W := (pm_ks L).map (fun k => (G.1 k, pm_cell L G w k))
def pm_tys (G : pm_G) : List (ClassId × FieldType) := [(G.2 10, .int), (G.2 11, .boolean), (G.2 12, .long), (G.2 13, .object "ReadAhead$House"), (G.2 14, .object "ReadAhead$Asker")]
def pm_A (L : pm_L) (G : pm_G) : Nat → Prop := fun q => ∃ k, k ∈ pm_ks L ∧ q = G.1 k
def pm_has : List Int64 := [-6148914691236517206, -3689348814741910324, -1085102592571150096, -71777214294589696, -281470681808896, -4294967296]
def pm_sized : List Int64 := [1, 4295033110, 282668995843688, 78274679833913472, 1614655367130677248, 7530159316599308288, -9223372036854775808]
def pm_nest : List Jvm.Cond := [.methodLinkNest RX3 195 yX4_isBlock RX4, .methodLinkNest RX1 80 yX4_within RX4]
/-- the static tables, at the numbers 1000 and 1001 -/
def pm_S (L : pm_L) (G : pm_G) (U : State) (H : Heap) : Prop :=
  va_Z RX1 "HAS" "[J" (.ref (G.1 1000)) (pm_A L G) U H ∧ va_T .long (G.1 1000) 6 (fun j => .long (pm_has.getD j 0)) (pm_A L G) U H ∧
  va_Z RX1 "SIZED" "[J" (.ref (G.1 1001)) (pm_A L G) U H ∧ va_T .long (G.1 1001) 7 (fun j => .long (pm_sized.getD j 0)) (pm_A L G) U H
/-- the layout is of numbers below 120; the addresses are apart -/
def pm_ok (L : pm_L) (G : pm_G) : Prop := (∀ k, ¬ (L.1 k).1 = 99 → k < 120) ∧ (∀ i j, i ∈ pm_ks L → j ∈ pm_ks L → G.1 i = G.1 j → i = j)
/-- what holds all the while of a state -/
def pm_K (L : pm_L) (D : va_G) (G : pm_G) (U : State) : Prop := va_K D pm_cl (pm_tys G) U ∧ pm_S L G U U.heap ∧ (∀ w ∈ pm_nest, va_Nw w U)
def pm_X (L : pm_L) (M : pm_M) (p : Program) (s : State) (m : MethodId) (args : Array Value) (meth : Method) (c : Code) (D : va_G) (G : pm_G) : Prop :=
  p.tables.exec = Jvm.exec ∧ c.code = M.2.1 ∧ c.maxLocals = M.2.2.1 ∧ s.vm.findClass M.1.cls = some m.cls ∧ meth.sig.returnType = M.2.2.2.1 ∧ meth.locks = false ∧ (∀ w ∈ pm_ws M, w.before args s = true) ∧ pm_ok L G ∧ pm_K L D G s
def pm_Q (L : pm_L) (D : va_G) (G : pm_G) (Q : Option Value → pm_W → Prop) : Array Value → State → Outcome → State → Prop := fun _ st oc t =>
  (∃ (r : Option Value) (w : pm_W), oc = .returned (r.map (pm_v G)) ∧ Q r w ∧ va_P D pm_cl (pm_cells L G w) t.heap) ∧ va_F (pm_A L G) st t
def pm_lv (G : pm_G) (lv : List (Option Value)) : List (Nat × Value) := (List.range lv.length).filterMap (fun i => (lv.getD i none).map (fun v => (i, pm_v G v)))
theorem pm_lv_mem {G : pm_G} {lv : List (Option Value)} {i : Nat} {u : Value} : (i, u) ∈ pm_lv G lv ↔ ∃ v, lv[i]? = some (some v) ∧ u = pm_v G v := by
  unfold pm_lv
  rw [List.mem_filterMap]
  constructor
  · rintro ⟨a, ha, h⟩
    have hl := List.mem_range.mp ha
    rw [List.getD_eq_getElem?_getD, List.getElem?_eq_getElem hl] at h
    cases hv : lv[a] with
    | none => rw [hv] at h; cases h
    | some v =>
      rw [hv] at h
      simp at h
      obtain ⟨rfl, rfl⟩ := h
      exact ⟨v, by rw [List.getElem?_eq_getElem hl, hv], rfl⟩
  · rintro ⟨v, h, rfl⟩
    have hl : i < lv.length := (List.getElem?_eq_some_iff.mp h).1
    refine ⟨i, List.mem_range.mpr hl, ?_⟩
    rw [List.getD_eq_getElem?_getD, h]
    rfl
/-- the walk stands at pc with these locals, this stack, this world: it comes to an end with Q -/
def pm_R (L : pm_L) (M : pm_M) (pc : Nat) (lv : List (Option Value)) (st : List Value) (w : pm_W) (Q : Option Value → pm_W → Prop) : Prop :=
  ∀ (p : Program) (l : Launch) (e : Env) (s : State) (m : MethodId) (args : Array Value) (below : List Frame) (meth : Method) (c : Code) (D : va_G) (G : pm_G), pm_X L M p s m args meth c D G →
    ∀ (H : Heap) (locs : List Loc) (ls : Array Slot), va_P D pm_cl (pm_cells L G w) H → va_S (pm_A L G) s.heap H locs → lv_has ls M.2.2.1 (pm_lv G lv) →
      W p l e (pm_rm M) s m args below meth c H locs 0 0 (MQ below (pm_Q L D G Q) args s 0 0 (pm_A L G)) (F0 m pc ls (st.map (pm_v G)))
/-- a method's contract at these arguments, from this world on -/
def pm_C (L : pm_L) (M : pm_M) (as : List Value) (w : pm_W) (Q : Option Value → pm_W → Prop) : Prop :=
  ∀ (l : Launch) (D : va_G) (G : pm_G), pm_ok L G → Met l M.1 (pm_ws M) (pm_rm M) (va_Pc (as.map (pm_v G)) (fun U => va_P D pm_cl (pm_cells L G w) U.heap ∧ pm_K L D G U)) (pm_Q L D G Q) 0 0 (pm_A L G)
-- cells
theorem pm_ks_mem {L : pm_L} {k : Nat} : k ∈ pm_ks L ↔ k < 120 ∧ ¬ (L.1 k).1 = 99 := by
  unfold pm_ks
  rw [List.mem_filter, List.mem_range]
  simp
theorem pm_there {L : pm_L} {G : pm_G} (ho : pm_ok L G) {k : Nat} (h : ¬ (L.1 k).1 = 99) : k ∈ pm_ks L := pm_ks_mem.mpr ⟨ho.1 k h, h⟩
theorem pm_cells_at {L : pm_L} {G : pm_G} (w : pm_W) {k : Nat} (h : k ∈ pm_ks L) : ∃ q0 : Nat, (pm_cells L G w)[q0]? = some (G.1 k, pm_cell L G w k) :=
  List.getElem?_of_mem (List.mem_map.mpr ⟨k, h, rfl⟩)
theorem pm_cells_id {L : pm_L} {G : pm_G} {w : pm_W} {i : Nat} {q : Nat × va_E} (h : (pm_cells L G w)[i]? = some q) : ∃ k, (pm_ks L)[i]? = some k ∧ k ∈ pm_ks L ∧ q = (G.1 k, pm_cell L G w k) := by
  unfold pm_cells at h
  rw [List.getElem?_map] at h
  cases hk : (pm_ks L)[i]? with
  | none => rw [hk] at h; cases h
  | some k =>
    rw [hk] at h
    exact ⟨k, rfl, List.mem_of_getElem? hk, (Option.some.inj h).symm⟩
theorem pm_ks_inj {L : pm_L} {i j k : Nat} (hi : (pm_ks L)[i]? = some k) (hj : (pm_ks L)[j]? = some k) : i = j := by
  have hn : (pm_ks L).Nodup := List.Pairwise.filter _ List.nodup_range
  obtain ⟨h1, e1⟩ := List.getElem?_eq_some_iff.mp hi
  obtain ⟨h2, e2⟩ := List.getElem?_eq_some_iff.mp hj
  have key := List.pairwise_iff_getElem.mp hn
  rcases Nat.lt_trichotomy i j with h | h | h
  · exact absurd (e1.trans e2.symm) (key i j h1 h2 h)
  · exact h
  · exact absurd (e2.trans e1.symm) (key j i h2 h1 h)
theorem pm_D {L : pm_L} {G : pm_G} (ho : pm_ok L G) (w : pm_W) : va_D (pm_A L G) (pm_cells L G w) := by
  refine ⟨fun i j x y hi hj hxy => ?_, fun i x hi => ?_⟩
  · obtain ⟨k1, h1, m1, rfl⟩ := pm_cells_id hi
    obtain ⟨k2, h2, m2, rfl⟩ := pm_cells_id hj
    have := ho.2 k1 k2 m1 m2 hxy
    subst this
    exact pm_ks_inj h1 h2
  · obtain ⟨k, h1, m1, rfl⟩ := pm_cells_id hi
    exact ⟨k, m1, rfl⟩
/-- behind a write to the cell k -/
theorem pm_P_set {L : pm_L} {D : va_G} {G : pm_G} (ho : pm_ok L G) {w w' : pm_W} {k q0 : Nat} {e : va_E} {H1 : Heap} (h0 : (pm_cells L G w)[q0]? = some (G.1 k, pm_cell L G w k)) (hk : k ∈ pm_ks L)
    (he : e = pm_cell L G w' k) (hx : ∀ j, j ≠ k → pm_cell L G w' j = pm_cell L G w j) (h : va_P D pm_cl ((pm_cells L G w).set q0 (G.1 k, e)) H1) : va_P D pm_cl (pm_cells L G w') H1 := by
  intro i q hq
  obtain ⟨j, h1, m1, rfl⟩ := pm_cells_id hq
  have hl0 := (List.getElem?_eq_some_iff.mp h0).1
  obtain ⟨k0, g1, gm, g2⟩ := pm_cells_id h0
  have ek : k0 = k := (ho.2 k k0 hk gm (congrArg Prod.fst g2)).symm
  subst ek
  by_cases hjk : j = k0
  · subst hjk
    refine h q0 _ ?_
    rw [List.getElem?_set_self hl0, he]
  · rw [hx j hjk]
    have hi0 : q0 ≠ i := by
      intro e0
      subst e0
      rw [g1] at h1
      exact hjk (Option.some.inj h1).symm
    refine h i _ ?_
    rw [List.getElem?_set_ne hi0]
    unfold pm_cells
    rw [List.getElem?_map, h1]
    rfl
-- locals
def pm_cut (lv : List (Option Value)) (i : Nat) : List (Option Value) := match i with
  | 0 => lv
  | j + 1 => match lv[j]? with
    | some (some v) => if v.category = 2 then lv.set j none else lv
    | _ => lv
def pm_set (lv : List (Option Value)) (i : Nat) (v : Value) : List (Option Value) := (pm_cut lv i).set i (some v)
def pm_set2 (lv : List (Option Value)) (i : Nat) (v : Value) : List (Option Value) := ((pm_cut lv i).set i (some v)).set (i + 1) none
theorem pm_cut_at {lv : List (Option Value)} {i a : Nat} {v : Value} (h : (pm_cut lv i)[a]? = some (some v)) : lv[a]? = some (some v) ∧ ¬ (a + 1 = i ∧ v.category = 2) := by
  cases i with
  | zero => exact ⟨h, fun q => by omega⟩
  | succ j =>
    unfold pm_cut at h
    simp only at h
    split at h
    next u hu =>
      split at h
      next hc =>
        by_cases ha : a = j
        · subst ha
          have hl := (List.getElem?_eq_some_iff.mp hu).1
          rw [List.getElem?_set_self hl] at h
          cases h
        · rw [List.getElem?_set_ne (Ne.symm ha)] at h
          exact ⟨h, fun q => ha (by omega)⟩
      next hc =>
        refine ⟨h, fun q => ?_⟩
        have ha : a = j := by omega
        subst ha
        rw [h] at hu
        cases hu
        exact hc q.2
    next hu =>
      refine ⟨h, fun q => ?_⟩
      have ha : a = j := by omega
      subst ha
      exact hu v h
theorem pm_has1 {G : pm_G} {ls : Array Slot} {n i : Nat} {lv : List (Option Value)} {v : Value} (h : lv_has ls n ((i, pm_v G v) :: (pm_lv G lv).filter (fun q => !(q.1 == i) && !(q.1 + 1 == i && q.2.category == 2)))) : lv_has ls n (pm_lv G (pm_set lv i v)) := by
  refine ⟨h.1, h.2.1, fun q hq => h.2.2 q ?_⟩
  obtain ⟨a, u⟩ := q
  obtain ⟨v0, h0, rfl⟩ := pm_lv_mem.mp hq
  unfold pm_set at h0
  by_cases ha : i = a
  · subst ha
    have hl : i < ((pm_cut lv i).set i (some v)).length := (List.getElem?_eq_some_iff.mp h0).1
    rw [List.length_set] at hl
    rw [List.getElem?_set_self hl] at h0
    cases h0
    exact List.mem_cons_self
  · rw [List.getElem?_set_ne ha] at h0
    obtain ⟨h1, h2⟩ := pm_cut_at h0
    refine List.mem_cons_of_mem _ (List.mem_filter.mpr ⟨pm_lv_mem.mpr ⟨v0, h1, rfl⟩, ?_⟩)
    simp only [Bool.and_eq_true, Bool.not_eq_true', beq_eq_false_iff_ne, ne_eq, Bool.and_eq_false_iff, pm_v_cat]
    refine ⟨fun e => ha e.symm, ?_⟩
    by_cases h3 : a + 1 = i
    · exact Or.inr (fun e => h2 ⟨h3, e⟩)
    · exact Or.inl h3
theorem pm_has2 {G : pm_G} {ls : Array Slot} {n i : Nat} {lv : List (Option Value)} {v : Value} (h : lv_has ls n ((i, pm_v G v) :: (pm_lv G lv).filter (fun q => !(q.1 == i) && (!(q.1 == i + 1) && !(q.1 + 1 == i && q.2.category == 2))))) : lv_has ls n (pm_lv G (pm_set2 lv i v)) := by
  refine ⟨h.1, h.2.1, fun q hq => h.2.2 q ?_⟩
  obtain ⟨a, u⟩ := q
  obtain ⟨v0, h0, rfl⟩ := pm_lv_mem.mp hq
  unfold pm_set2 at h0
  by_cases hb : i + 1 = a
  · subst hb
    have hl := (List.getElem?_eq_some_iff.mp h0).1
    rw [List.length_set] at hl
    rw [List.getElem?_set_self hl] at h0
    cases h0
  rw [List.getElem?_set_ne hb] at h0
  by_cases ha : i = a
  · subst ha
    have hl : i < ((pm_cut lv i).set i (some v)).length := (List.getElem?_eq_some_iff.mp h0).1
    rw [List.length_set] at hl
    rw [List.getElem?_set_self hl] at h0
    cases h0
    exact List.mem_cons_self
  · rw [List.getElem?_set_ne ha] at h0
    obtain ⟨h1, h2⟩ := pm_cut_at h0
    refine List.mem_cons_of_mem _ (List.mem_filter.mpr ⟨pm_lv_mem.mpr ⟨v0, h1, rfl⟩, ?_⟩)
    simp only [Bool.and_eq_true, Bool.not_eq_true', beq_eq_false_iff_ne, ne_eq, Bool.and_eq_false_iff, pm_v_cat]
    refine ⟨fun e => ha e.symm, fun e => hb e.symm, ?_⟩
    by_cases h3 : a + 1 = i
    · exact Or.inr (fun e => h2 ⟨h3, e⟩)
    · exact Or.inl h3
theorem pm_get {G : pm_G} {ls : Array Slot} {n i : Nat} {lv : List (Option Value)} {v : Value} (h : lv_has ls n (pm_lv G lv)) (hi : lv[i]? = some (some v)) : ls[i]? = some (.val (pm_v G v)) := h.2.2 (i, pm_v G v) (pm_lv_mem.mpr ⟨v, hi, rfl⟩)
/-- some locals forgotten -/
theorem pm_forget {L : pm_L} {M : pm_M} {pc : Nat} {lv lv' : List (Option Value)} {st : List Value} {w : pm_W} {Q : Option Value → pm_W → Prop} (hf : ∀ (i : Nat) (v : Value), lv'[i]? = some (some v) → lv[i]? = some (some v)) (h : pm_R L M pc lv' st w Q) : pm_R L M pc lv st w Q := by
  intro p l e s m args below meth c D G X H locs ls hP hS hl
  refine h p l e s m args below meth c D G X H locs ls hP hS ⟨hl.1, hl.2.1, fun q hq => ?_⟩
  obtain ⟨a, u⟩ := q
  obtain ⟨v, h1, rfl⟩ := pm_lv_mem.mp hq
  exact hl.2.2 _ (pm_lv_mem.mpr ⟨v, hf a v h1, rfl⟩)
theorem pm_mono {L : pm_L} {M : pm_M} {as : List Value} {w : pm_W} {Q Q' : Option Value → pm_W → Prop} (h : pm_C L M as w Q) (hq : ∀ r w', Q r w' → Q' r w') : pm_C L M as w Q' := by
  intro l D G ho
  have h1 := h l D G ho
  intro p e ha hc hk s m args below hf hap hP hK
  obtain ⟨t, o, h2, h3, h4, ⟨⟨r, w', e1, e2, e3⟩, e4⟩, h5⟩ := h1 p e ha hc hk s m args below hf hap hP hK
  exact ⟨t, o, h2, h3, h4, ⟨⟨r, w', e1, hq r w' e2, e3⟩, e4⟩, h5⟩

theorem pm_iconst {L : pm_L} {M : pm_M} {pc : Nat} {lv : List (Option Value)} {st : List Value} {w : pm_W} {Q : Option Value → pm_W → Prop} {n : Int} {x : Int32} (hd : decode M.2.1 pc = .ok (.iconst n, 1)) (hv : Int32.ofInt n = x) (h : pm_R L M (pc + 1) lv (.int x :: st) w Q) : pm_R L M pc lv (st) w Q := by
  intro p l e s m args below meth c D G X H locs ls hP hS hl
  obtain ⟨hx, hb, hml, hown, hr, hlocks, hts, ho, hK, hSt, hNw⟩ := id X
  exact lv_iconst hx hb hd hv (h p l e s m args below meth c D G X H locs ls hP hS hl)

theorem pm_bipush {L : pm_L} {M : pm_M} {pc : Nat} {lv : List (Option Value)} {st : List Value} {w : pm_W} {Q : Option Value → pm_W → Prop} {n : Int} {x : Int32} (hd : decode M.2.1 pc = .ok (.bipush n, 2)) (hv : (Int8.ofInt n).toInt32 = x) (h : pm_R L M (pc + 2) lv (.int x :: st) w Q) : pm_R L M pc lv (st) w Q := by
  intro p l e s m args below meth c D G X H locs ls hP hS hl
  obtain ⟨hx, hb, hml, hown, hr, hlocks, hts, ho, hK, hSt, hNw⟩ := id X
  exact lv_bipush hx hb hd hv (h p l e s m args below meth c D G X H locs ls hP hS hl)

theorem pm_sipush {L : pm_L} {M : pm_M} {pc : Nat} {lv : List (Option Value)} {st : List Value} {w : pm_W} {Q : Option Value → pm_W → Prop} {n : Int} {x : Int32} (hd : decode M.2.1 pc = .ok (.sipush n, 3)) (hv : (Int16.ofInt n).toInt32 = x) (h : pm_R L M (pc + 3) lv (.int x :: st) w Q) : pm_R L M pc lv (st) w Q := by
  intro p l e s m args below meth c D G X H locs ls hP hS hl
  obtain ⟨hx, hb, hml, hown, hr, hlocks, hts, ho, hK, hSt, hNw⟩ := id X
  exact lv_sipush hx hb hd hv (h p l e s m args below meth c D G X H locs ls hP hS hl)

theorem pm_lconst {L : pm_L} {M : pm_M} {pc : Nat} {lv : List (Option Value)} {st : List Value} {w : pm_W} {Q : Option Value → pm_W → Prop} {n : Fin 2} {x : Int64} (hd : decode M.2.1 pc = .ok (.lconst n, 1)) (hv : Int64.ofNat (n : Nat) = x) (h : pm_R L M (pc + 1) lv (.long x :: st) w Q) : pm_R L M pc lv (st) w Q := by
  intro p l e s m args below meth c D G X H locs ls hP hS hl
  obtain ⟨hx, hb, hml, hown, hr, hlocks, hts, ho, hK, hSt, hNw⟩ := id X
  exact lv_lconst hx hb hd hv (h p l e s m args below meth c D G X H locs ls hP hS hl)

theorem pm_ldc {L : pm_L} {M : pm_M} {pc : Nat} {lv : List (Option Value)} {st : List Value} {w : pm_W} {Q : Option Value → pm_W → Prop} {index : Nat} {x : Int32} (hc : Jvm.Cond.constant M.1.cls index x ∈ pm_good) (hd : decode M.2.1 pc = .ok (.ldc index, 2)) (h : pm_R L M (pc + 2) lv (.int x :: st) w Q) : pm_R L M pc lv (st) w Q := by
  intro p l e s m args below meth c D G X H locs ls hP hS hl
  obtain ⟨hx, hb, hml, hown, hr, hlocks, hts, ho, hK, hSt, hNw⟩ := id X
  exact lv_ldc hx hb hown (hts _ (List.mem_cons_of_mem _ hc)) hd (h p l e s m args below meth c D G X H locs ls hP hS hl)

theorem pm_ldc2 {L : pm_L} {M : pm_M} {pc : Nat} {lv : List (Option Value)} {st : List Value} {w : pm_W} {Q : Option Value → pm_W → Prop} {index : Nat} {x : Int64} (hc : Jvm.Cond.constantLong M.1.cls index x ∈ pm_good) (hd : decode M.2.1 pc = .ok (.ldc2_w index, 3)) (h : pm_R L M (pc + 3) lv (.long x :: st) w Q) : pm_R L M pc lv (st) w Q := by
  intro p l e s m args below meth c D G X H locs ls hP hS hl
  obtain ⟨hx, hb, hml, hown, hr, hlocks, hts, ho, hK, hSt, hNw⟩ := id X
  exact lv_ldc2 hx hb hown (hts _ (List.mem_cons_of_mem _ hc)) hd (h p l e s m args below meth c D G X H locs ls hP hS hl)

theorem pm_iload_n {L : pm_L} {M : pm_M} {pc : Nat} {lv : List (Option Value)} {st : List Value} {w : pm_W} {Q : Option Value → pm_W → Prop} {k : Fin 4} {x : Int32} (hd : decode M.2.1 pc = .ok (.iload_n k, 1)) (hi : lv[(k : Nat)]? = some (some (.int x))) (h : pm_R L M (pc + 1) lv (.int x :: st) w Q) : pm_R L M pc lv (st) w Q := by
  intro p l e s m args below meth c D G X H locs ls hP hS hl
  obtain ⟨hx, hb, hml, hown, hr, hlocks, hts, ho, hK, hSt, hNw⟩ := id X
  exact lv_iload_n hx hb hd rfl (pm_get hl hi) (h p l e s m args below meth c D G X H locs ls hP hS hl)

theorem pm_iload {L : pm_L} {M : pm_M} {pc : Nat} {lv : List (Option Value)} {st : List Value} {w : pm_W} {Q : Option Value → pm_W → Prop} {i : Nat} {x : Int32} (hd : decode M.2.1 pc = .ok (.iload i, 2)) (hi : lv[i]? = some (some (.int x))) (h : pm_R L M (pc + 2) lv (.int x :: st) w Q) : pm_R L M pc lv (st) w Q := by
  intro p l e s m args below meth c D G X H locs ls hP hS hl
  obtain ⟨hx, hb, hml, hown, hr, hlocks, hts, ho, hK, hSt, hNw⟩ := id X
  exact lv_iload hx hb hd (pm_get hl hi) (h p l e s m args below meth c D G X H locs ls hP hS hl)

theorem pm_lload_n {L : pm_L} {M : pm_M} {pc : Nat} {lv : List (Option Value)} {st : List Value} {w : pm_W} {Q : Option Value → pm_W → Prop} {k : Fin 4} {x : Int64} (hd : decode M.2.1 pc = .ok (.lload_n k, 1)) (hi : lv[(k : Nat)]? = some (some (.long x))) (h : pm_R L M (pc + 1) lv (.long x :: st) w Q) : pm_R L M pc lv (st) w Q := by
  intro p l e s m args below meth c D G X H locs ls hP hS hl
  obtain ⟨hx, hb, hml, hown, hr, hlocks, hts, ho, hK, hSt, hNw⟩ := id X
  exact lv_lload_n hx hb hd rfl (pm_get hl hi) (h p l e s m args below meth c D G X H locs ls hP hS hl)

theorem pm_lload {L : pm_L} {M : pm_M} {pc : Nat} {lv : List (Option Value)} {st : List Value} {w : pm_W} {Q : Option Value → pm_W → Prop} {i : Nat} {x : Int64} (hd : decode M.2.1 pc = .ok (.lload i, 2)) (hi : lv[i]? = some (some (.long x))) (h : pm_R L M (pc + 2) lv (.long x :: st) w Q) : pm_R L M pc lv (st) w Q := by
  intro p l e s m args below meth c D G X H locs ls hP hS hl
  obtain ⟨hx, hb, hml, hown, hr, hlocks, hts, ho, hK, hSt, hNw⟩ := id X
  exact lv_lload hx hb hd (pm_get hl hi) (h p l e s m args below meth c D G X H locs ls hP hS hl)

theorem pm_aload_n {L : pm_L} {M : pm_M} {pc : Nat} {lv : List (Option Value)} {st : List Value} {w : pm_W} {Q : Option Value → pm_W → Prop} {k : Fin 4} {x : Nat} (hd : decode M.2.1 pc = .ok (.aload_n k, 1)) (hi : lv[(k : Nat)]? = some (some (.ref x))) (h : pm_R L M (pc + 1) lv (.ref x :: st) w Q) : pm_R L M pc lv (st) w Q := by
  intro p l e s m args below meth c D G X H locs ls hP hS hl
  obtain ⟨hx, hb, hml, hown, hr, hlocks, hts, ho, hK, hSt, hNw⟩ := id X
  exact lv_aload_n hx hb hd rfl (pm_get hl hi) (h p l e s m args below meth c D G X H locs ls hP hS hl)

theorem pm_aload {L : pm_L} {M : pm_M} {pc : Nat} {lv : List (Option Value)} {st : List Value} {w : pm_W} {Q : Option Value → pm_W → Prop} {i : Nat} {x : Nat} (hd : decode M.2.1 pc = .ok (.aload i, 2)) (hi : lv[i]? = some (some (.ref x))) (h : pm_R L M (pc + 2) lv (.ref x :: st) w Q) : pm_R L M pc lv (st) w Q := by
  intro p l e s m args below meth c D G X H locs ls hP hS hl
  obtain ⟨hx, hb, hml, hown, hr, hlocks, hts, ho, hK, hSt, hNw⟩ := id X
  exact lv_aload hx hb hd (pm_get hl hi) (h p l e s m args below meth c D G X H locs ls hP hS hl)

theorem pm_istore_n {L : pm_L} {M : pm_M} {pc : Nat} {lv : List (Option Value)} {st : List Value} {w : pm_W} {Q : Option Value → pm_W → Prop} {k : Fin 4} {x : Int32} {lv' : List (Option Value)} (hd : decode M.2.1 pc = .ok (.istore_n k, 1)) (hn : (k : Nat) < M.2.2.1) (hs : pm_set lv k (.int x) = lv') (h : pm_R L M (pc + 1) lv' st w Q) : pm_R L M pc lv (.int x :: st) w Q := by
  intro p l e s m args below meth c D G X H locs ls hP hS hl
  obtain ⟨hx, hb, hml, hown, hr, hlocks, hts, ho, hK, hSt, hNw⟩ := id X
  subst hs
  exact lv_istore_n hx hb hd rfl hl hn rfl (fun ls hl => h p l e s m args below meth c D G X H locs ls hP hS (pm_has1 (v := .int x) hl))

theorem pm_istore {L : pm_L} {M : pm_M} {pc : Nat} {lv : List (Option Value)} {st : List Value} {w : pm_W} {Q : Option Value → pm_W → Prop} {i : Nat} {x : Int32} {lv' : List (Option Value)} (hd : decode M.2.1 pc = .ok (.istore i, 2)) (hn : i < M.2.2.1) (hs : pm_set lv i (.int x) = lv') (h : pm_R L M (pc + 2) lv' st w Q) : pm_R L M pc lv (.int x :: st) w Q := by
  intro p l e s m args below meth c D G X H locs ls hP hS hl
  obtain ⟨hx, hb, hml, hown, hr, hlocks, hts, ho, hK, hSt, hNw⟩ := id X
  subst hs
  exact lv_istore hx hb hd hl hn rfl (fun ls hl => h p l e s m args below meth c D G X H locs ls hP hS (pm_has1 (v := .int x) hl))

theorem pm_astore_n {L : pm_L} {M : pm_M} {pc : Nat} {lv : List (Option Value)} {st : List Value} {w : pm_W} {Q : Option Value → pm_W → Prop} {k : Fin 4} {x : Nat} {lv' : List (Option Value)} (hd : decode M.2.1 pc = .ok (.astore_n k, 1)) (hn : (k : Nat) < M.2.2.1) (hs : pm_set lv k (.ref x) = lv') (h : pm_R L M (pc + 1) lv' st w Q) : pm_R L M pc lv (.ref x :: st) w Q := by
  intro p l e s m args below meth c D G X H locs ls hP hS hl
  obtain ⟨hx, hb, hml, hown, hr, hlocks, hts, ho, hK, hSt, hNw⟩ := id X
  subst hs
  exact lv_astore_n hx hb hd rfl hl hn rfl (fun ls hl => h p l e s m args below meth c D G X H locs ls hP hS (pm_has1 (v := .ref x) hl))

theorem pm_astore {L : pm_L} {M : pm_M} {pc : Nat} {lv : List (Option Value)} {st : List Value} {w : pm_W} {Q : Option Value → pm_W → Prop} {i : Nat} {x : Nat} {lv' : List (Option Value)} (hd : decode M.2.1 pc = .ok (.astore i, 2)) (hn : i < M.2.2.1) (hs : pm_set lv i (.ref x) = lv') (h : pm_R L M (pc + 2) lv' st w Q) : pm_R L M pc lv (.ref x :: st) w Q := by
  intro p l e s m args below meth c D G X H locs ls hP hS hl
  obtain ⟨hx, hb, hml, hown, hr, hlocks, hts, ho, hK, hSt, hNw⟩ := id X
  subst hs
  exact lv_astore hx hb hd hl hn rfl (fun ls hl => h p l e s m args below meth c D G X H locs ls hP hS (pm_has1 (v := .ref x) hl))

theorem pm_lstore_n {L : pm_L} {M : pm_M} {pc : Nat} {lv : List (Option Value)} {st : List Value} {w : pm_W} {Q : Option Value → pm_W → Prop} {k : Fin 4} {x : Int64} {lv' : List (Option Value)} (hd : decode M.2.1 pc = .ok (.lstore_n k, 1)) (hn : (k : Nat) + 1 < M.2.2.1) (hs : pm_set2 lv k (.long x) = lv') (h : pm_R L M (pc + 1) lv' st w Q) : pm_R L M pc lv (.long x :: st) w Q := by
  intro p l e s m args below meth c D G X H locs ls hP hS hl
  obtain ⟨hx, hb, hml, hown, hr, hlocks, hts, ho, hK, hSt, hNw⟩ := id X
  subst hs
  exact lv_lstore_n hx hb hd rfl hl hn rfl (fun ls hl => h p l e s m args below meth c D G X H locs ls hP hS (pm_has2 (v := .long x) hl))

theorem pm_lstore {L : pm_L} {M : pm_M} {pc : Nat} {lv : List (Option Value)} {st : List Value} {w : pm_W} {Q : Option Value → pm_W → Prop} {i : Nat} {x : Int64} {lv' : List (Option Value)} (hd : decode M.2.1 pc = .ok (.lstore i, 2)) (hn : i + 1 < M.2.2.1) (hs : pm_set2 lv i (.long x) = lv') (h : pm_R L M (pc + 2) lv' st w Q) : pm_R L M pc lv (.long x :: st) w Q := by
  intro p l e s m args below meth c D G X H locs ls hP hS hl
  obtain ⟨hx, hb, hml, hown, hr, hlocks, hts, ho, hK, hSt, hNw⟩ := id X
  subst hs
  exact lv_lstore hx hb hd hl hn rfl (fun ls hl => h p l e s m args below meth c D G X H locs ls hP hS (pm_has2 (v := .long x) hl))

theorem pm_iinc {L : pm_L} {M : pm_M} {pc : Nat} {lv : List (Option Value)} {st : List Value} {w : pm_W} {Q : Option Value → pm_W → Prop} {i : Nat} {n : Int} {x y : Int32} {lv' : List (Option Value)} (hd : decode M.2.1 pc = .ok (.iinc i n, 3)) (hi : lv[i]? = some (some (.int x))) (hv : x + Int32.ofInt n = y) (hn : i < M.2.2.1) (hs : pm_set lv i (.int y) = lv') (h : pm_R L M (pc + 3) lv' st w Q) : pm_R L M pc lv (st) w Q := by
  intro p l e s m args below meth c D G X H locs ls hP hS hl
  obtain ⟨hx, hb, hml, hown, hr, hlocks, hts, ho, hK, hSt, hNw⟩ := id X
  subst hs
  obtain ⟨k, hk⟩ := List.getElem?_of_mem (pm_lv_mem (G := G).mpr ⟨_, hi, rfl⟩)
  exact lv_iinc hx hb hd hl hk hv hn rfl (fun ls hl => h p l e s m args below meth c D G X H locs ls hP hS (pm_has1 (v := .int y) hl))

theorem pm_iadd {L : pm_L} {M : pm_M} {pc : Nat} {lv : List (Option Value)} {st : List Value} {w : pm_W} {Q : Option Value → pm_W → Prop} {x y : Int32} (hd : decode M.2.1 pc = .ok (.iadd, 1)) (h : pm_R L M (pc + 1) lv (.int (x + y) :: st) w Q) : pm_R L M pc lv (.int y :: .int x :: st) w Q := by
  intro p l e s m args below meth c D G X H locs ls hP hS hl
  obtain ⟨hx, hb, hml, hown, hr, hlocks, hts, ho, hK, hSt, hNw⟩ := id X
  exact lv_iadd hx hb hd (h p l e s m args below meth c D G X H locs ls hP hS hl)

theorem pm_isub {L : pm_L} {M : pm_M} {pc : Nat} {lv : List (Option Value)} {st : List Value} {w : pm_W} {Q : Option Value → pm_W → Prop} {x y : Int32} (hd : decode M.2.1 pc = .ok (.isub, 1)) (h : pm_R L M (pc + 1) lv (.int (x - y) :: st) w Q) : pm_R L M pc lv (.int y :: .int x :: st) w Q := by
  intro p l e s m args below meth c D G X H locs ls hP hS hl
  obtain ⟨hx, hb, hml, hown, hr, hlocks, hts, ho, hK, hSt, hNw⟩ := id X
  exact lv_isub hx hb hd (h p l e s m args below meth c D G X H locs ls hP hS hl)

theorem pm_imul {L : pm_L} {M : pm_M} {pc : Nat} {lv : List (Option Value)} {st : List Value} {w : pm_W} {Q : Option Value → pm_W → Prop} {x y : Int32} (hd : decode M.2.1 pc = .ok (.imul, 1)) (h : pm_R L M (pc + 1) lv (.int (x * y) :: st) w Q) : pm_R L M pc lv (.int y :: .int x :: st) w Q := by
  intro p l e s m args below meth c D G X H locs ls hP hS hl
  obtain ⟨hx, hb, hml, hown, hr, hlocks, hts, ho, hK, hSt, hNw⟩ := id X
  exact lv_imul hx hb hd (h p l e s m args below meth c D G X H locs ls hP hS hl)

theorem pm_iand {L : pm_L} {M : pm_M} {pc : Nat} {lv : List (Option Value)} {st : List Value} {w : pm_W} {Q : Option Value → pm_W → Prop} {x y : Int32} (hd : decode M.2.1 pc = .ok (.iand, 1)) (h : pm_R L M (pc + 1) lv (.int (x &&& y) :: st) w Q) : pm_R L M pc lv (.int y :: .int x :: st) w Q := by
  intro p l e s m args below meth c D G X H locs ls hP hS hl
  obtain ⟨hx, hb, hml, hown, hr, hlocks, hts, ho, hK, hSt, hNw⟩ := id X
  exact lv_iand hx hb hd (h p l e s m args below meth c D G X H locs ls hP hS hl)

theorem pm_ior {L : pm_L} {M : pm_M} {pc : Nat} {lv : List (Option Value)} {st : List Value} {w : pm_W} {Q : Option Value → pm_W → Prop} {x y : Int32} (hd : decode M.2.1 pc = .ok (.ior, 1)) (h : pm_R L M (pc + 1) lv (.int (x ||| y) :: st) w Q) : pm_R L M pc lv (.int y :: .int x :: st) w Q := by
  intro p l e s m args below meth c D G X H locs ls hP hS hl
  obtain ⟨hx, hb, hml, hown, hr, hlocks, hts, ho, hK, hSt, hNw⟩ := id X
  exact lv_ior hx hb hd (h p l e s m args below meth c D G X H locs ls hP hS hl)

theorem pm_ixor {L : pm_L} {M : pm_M} {pc : Nat} {lv : List (Option Value)} {st : List Value} {w : pm_W} {Q : Option Value → pm_W → Prop} {x y : Int32} (hd : decode M.2.1 pc = .ok (.ixor, 1)) (h : pm_R L M (pc + 1) lv (.int (x ^^^ y) :: st) w Q) : pm_R L M pc lv (.int y :: .int x :: st) w Q := by
  intro p l e s m args below meth c D G X H locs ls hP hS hl
  obtain ⟨hx, hb, hml, hown, hr, hlocks, hts, ho, hK, hSt, hNw⟩ := id X
  exact lv_ixor hx hb hd (h p l e s m args below meth c D G X H locs ls hP hS hl)

theorem pm_ishl {L : pm_L} {M : pm_M} {pc : Nat} {lv : List (Option Value)} {st : List Value} {w : pm_W} {Q : Option Value → pm_W → Prop} {x y : Int32} (hd : decode M.2.1 pc = .ok (.ishl, 1)) (h : pm_R L M (pc + 1) lv (.int (x <<< (y &&& 31)) :: st) w Q) : pm_R L M pc lv (.int y :: .int x :: st) w Q := by
  intro p l e s m args below meth c D G X H locs ls hP hS hl
  obtain ⟨hx, hb, hml, hown, hr, hlocks, hts, ho, hK, hSt, hNw⟩ := id X
  exact lv_ishl hx hb hd (h p l e s m args below meth c D G X H locs ls hP hS hl)

theorem pm_ishr {L : pm_L} {M : pm_M} {pc : Nat} {lv : List (Option Value)} {st : List Value} {w : pm_W} {Q : Option Value → pm_W → Prop} {x y : Int32} (hd : decode M.2.1 pc = .ok (.ishr, 1)) (h : pm_R L M (pc + 1) lv (.int (x >>> (y &&& 31)) :: st) w Q) : pm_R L M pc lv (.int y :: .int x :: st) w Q := by
  intro p l e s m args below meth c D G X H locs ls hP hS hl
  obtain ⟨hx, hb, hml, hown, hr, hlocks, hts, ho, hK, hSt, hNw⟩ := id X
  exact lv_ishr hx hb hd (h p l e s m args below meth c D G X H locs ls hP hS hl)

theorem pm_idiv {L : pm_L} {M : pm_M} {pc : Nat} {lv : List (Option Value)} {st : List Value} {w : pm_W} {Q : Option Value → pm_W → Prop} {x y : Int32} (hd : decode M.2.1 pc = .ok (.idiv, 1)) (hne : ¬ y = 0) (h : pm_R L M (pc + 1) lv (.int (x / y) :: st) w Q) : pm_R L M pc lv (.int y :: .int x :: st) w Q := by
  intro p l e s m args below meth c D G X H locs ls hP hS hl
  obtain ⟨hx, hb, hml, hown, hr, hlocks, hts, ho, hK, hSt, hNw⟩ := id X
  exact lv_idiv hx hb hd hne (h p l e s m args below meth c D G X H locs ls hP hS hl)

theorem pm_irem {L : pm_L} {M : pm_M} {pc : Nat} {lv : List (Option Value)} {st : List Value} {w : pm_W} {Q : Option Value → pm_W → Prop} {x y : Int32} (hd : decode M.2.1 pc = .ok (.irem, 1)) (hne : ¬ y = 0) (h : pm_R L M (pc + 1) lv (.int (x - x / y * y) :: st) w Q) : pm_R L M pc lv (.int y :: .int x :: st) w Q := by
  intro p l e s m args below meth c D G X H locs ls hP hS hl
  obtain ⟨hx, hb, hml, hown, hr, hlocks, hts, ho, hK, hSt, hNw⟩ := id X
  exact lv_irem hx hb hd hne (h p l e s m args below meth c D G X H locs ls hP hS hl)

theorem pm_ineg {L : pm_L} {M : pm_M} {pc : Nat} {lv : List (Option Value)} {st : List Value} {w : pm_W} {Q : Option Value → pm_W → Prop} {x : Int32} (hd : decode M.2.1 pc = .ok (.ineg, 1)) (h : pm_R L M (pc + 1) lv (.int (-x) :: st) w Q) : pm_R L M pc lv (.int x :: st) w Q := by
  intro p l e s m args below meth c D G X H locs ls hP hS hl
  obtain ⟨hx, hb, hml, hown, hr, hlocks, hts, ho, hK, hSt, hNw⟩ := id X
  exact lv_ineg hx hb hd (by first | exact h p l e s m args below meth c D G X H locs ls hP hS hl | (have h2 := h p l e s m args below meth c D G X H locs ls hP hS hl; simpa using h2))

theorem pm_land {L : pm_L} {M : pm_M} {pc : Nat} {lv : List (Option Value)} {st : List Value} {w : pm_W} {Q : Option Value → pm_W → Prop} {x y : Int64} (hd : decode M.2.1 pc = .ok (.land, 1)) (h : pm_R L M (pc + 1) lv (.long (x &&& y) :: st) w Q) : pm_R L M pc lv (.long y :: .long x :: st) w Q := by
  intro p l e s m args below meth c D G X H locs ls hP hS hl
  obtain ⟨hx, hb, hml, hown, hr, hlocks, hts, ho, hK, hSt, hNw⟩ := id X
  exact lv_land hx hb hd (h p l e s m args below meth c D G X H locs ls hP hS hl)

theorem pm_lor {L : pm_L} {M : pm_M} {pc : Nat} {lv : List (Option Value)} {st : List Value} {w : pm_W} {Q : Option Value → pm_W → Prop} {x y : Int64} (hd : decode M.2.1 pc = .ok (.lor, 1)) (h : pm_R L M (pc + 1) lv (.long (x ||| y) :: st) w Q) : pm_R L M pc lv (.long y :: .long x :: st) w Q := by
  intro p l e s m args below meth c D G X H locs ls hP hS hl
  obtain ⟨hx, hb, hml, hown, hr, hlocks, hts, ho, hK, hSt, hNw⟩ := id X
  exact lv_lor hx hb hd (h p l e s m args below meth c D G X H locs ls hP hS hl)

theorem pm_lxor {L : pm_L} {M : pm_M} {pc : Nat} {lv : List (Option Value)} {st : List Value} {w : pm_W} {Q : Option Value → pm_W → Prop} {x y : Int64} (hd : decode M.2.1 pc = .ok (.lxor, 1)) (h : pm_R L M (pc + 1) lv (.long (x ^^^ y) :: st) w Q) : pm_R L M pc lv (.long y :: .long x :: st) w Q := by
  intro p l e s m args below meth c D G X H locs ls hP hS hl
  obtain ⟨hx, hb, hml, hown, hr, hlocks, hts, ho, hK, hSt, hNw⟩ := id X
  exact lv_lxor hx hb hd (h p l e s m args below meth c D G X H locs ls hP hS hl)

theorem pm_lushr {L : pm_L} {M : pm_M} {pc : Nat} {lv : List (Option Value)} {st : List Value} {w : pm_W} {Q : Option Value → pm_W → Prop} {x : Int64} {y : Int32} (hd : decode M.2.1 pc = .ok (.lushr, 1)) (h : pm_R L M (pc + 1) lv (.long (x.toUInt64 >>> (y.toInt64.toUInt64 &&& Int64.toUInt64 63)).toInt64 :: st) w Q) : pm_R L M pc lv (.int y :: .long x :: st) w Q := by
  intro p l e s m args below meth c D G X H locs ls hP hS hl
  obtain ⟨hx, hb, hml, hown, hr, hlocks, hts, ho, hK, hSt, hNw⟩ := id X
  exact lv_lushr hx hb hd rfl (h p l e s m args below meth c D G X H locs ls hP hS hl)

theorem pm_lshl {L : pm_L} {M : pm_M} {pc : Nat} {lv : List (Option Value)} {st : List Value} {w : pm_W} {Q : Option Value → pm_W → Prop} {x : Int64} {y : Int32} (hd : decode M.2.1 pc = .ok (.lshl, 1)) (h : pm_R L M (pc + 1) lv (.long (x <<< (y.toInt64 &&& 63)) :: st) w Q) : pm_R L M pc lv (.int y :: .long x :: st) w Q := by
  intro p l e s m args below meth c D G X H locs ls hP hS hl
  obtain ⟨hx, hb, hml, hown, hr, hlocks, hts, ho, hK, hSt, hNw⟩ := id X
  exact lv_lshl hx hb hd rfl (h p l e s m args below meth c D G X H locs ls hP hS hl)

theorem pm_lcmp {L : pm_L} {M : pm_M} {pc : Nat} {lv : List (Option Value)} {st : List Value} {w : pm_W} {Q : Option Value → pm_W → Prop} {x y : Int64} (hd : decode M.2.1 pc = .ok (.lcmp, 1)) (h : pm_R L M (pc + 1) lv (.int (lg_cmp x y) :: st) w Q) : pm_R L M pc lv (.long y :: .long x :: st) w Q := by
  intro p l e s m args below meth c D G X H locs ls hP hS hl
  obtain ⟨hx, hb, hml, hown, hr, hlocks, hts, ho, hK, hSt, hNw⟩ := id X
  exact W.lcmp hx hb hd (h p l e s m args below meth c D G X H locs ls hP hS hl)

theorem pm_i2l {L : pm_L} {M : pm_M} {pc : Nat} {lv : List (Option Value)} {st : List Value} {w : pm_W} {Q : Option Value → pm_W → Prop} {x : Int32} (hd : decode M.2.1 pc = .ok (.i2l, 1)) (h : pm_R L M (pc + 1) lv (.long x.toInt64 :: st) w Q) : pm_R L M pc lv (.int x :: st) w Q := by
  intro p l e s m args below meth c D G X H locs ls hP hS hl
  obtain ⟨hx, hb, hml, hown, hr, hlocks, hts, ho, hK, hSt, hNw⟩ := id X
  exact lv_i2l hx hb hd rfl (h p l e s m args below meth c D G X H locs ls hP hS hl)

theorem pm_dup {L : pm_L} {M : pm_M} {pc : Nat} {lv : List (Option Value)} {st : List Value} {w : pm_W} {Q : Option Value → pm_W → Prop} {a : Value} (hd : decode M.2.1 pc = .ok (.dup, 1)) (ha : a.category = 1) (h : pm_R L M (pc + 1) lv (a :: a :: st) w Q) : pm_R L M pc lv (a :: st) w Q := by
  intro p l e s m args below meth c D G X H locs ls hP hS hl
  obtain ⟨hx, hb, hml, hown, hr, hlocks, hts, ho, hK, hSt, hNw⟩ := id X
  exact lv_dup hx hb hd (by rw [pm_v_cat]; exact ha) (h p l e s m args below meth c D G X H locs ls hP hS hl)

theorem pm_pop {L : pm_L} {M : pm_M} {pc : Nat} {lv : List (Option Value)} {st : List Value} {w : pm_W} {Q : Option Value → pm_W → Prop} {a : Value} (hd : decode M.2.1 pc = .ok (.pop, 1)) (ha : a.category = 1) (h : pm_R L M (pc + 1) lv st w Q) : pm_R L M pc lv (a :: st) w Q := by
  intro p l e s m args below meth c D G X H locs ls hP hS hl
  obtain ⟨hx, hb, hml, hown, hr, hlocks, hts, ho, hK, hSt, hNw⟩ := id X
  exact lv_pop hx hb hd (by rw [pm_v_cat]; exact ha) (h p l e s m args below meth c D G X H locs ls hP hS hl)

theorem pm_dup2 {L : pm_L} {M : pm_M} {pc : Nat} {lv : List (Option Value)} {st : List Value} {w : pm_W} {Q : Option Value → pm_W → Prop} {a b : Value} (hd : decode M.2.1 pc = .ok (.dup2, 1)) (ha : a.category = 1) (ha2 : b.category = 1) (h : pm_R L M (pc + 1) lv (a :: b :: a :: b :: st) w Q) : pm_R L M pc lv (a :: b :: st) w Q := by
  intro p l e s m args below meth c D G X H locs ls hP hS hl
  obtain ⟨hx, hb, hml, hown, hr, hlocks, hts, ho, hK, hSt, hNw⟩ := id X
  exact lv_dup2_11 hx hb hd (by rw [pm_v_cat]; exact ha) (by rw [pm_v_cat]; exact ha2) (h p l e s m args below meth c D G X H locs ls hP hS hl)

theorem pm_if_eq {L : pm_L} {M : pm_M} {pc : Nat} {lv : List (Option Value)} {st : List Value} {w : pm_W} {Q : Option Value → pm_W → Prop} {x : Int32} {off : Int} {tgt : Nat} (hd : decode M.2.1 pc = .ok (.ifCond .eq off, 3)) (ht : (pc : Int) + off = (tgt : Int)) (kt : x = 0 → pm_R L M tgt lv st w Q) (kf : ¬ x = 0 → pm_R L M (pc + 3) lv st w Q) : pm_R L M pc lv (.int x :: st) w Q := by
  intro p l e s m args below meth c D G X H locs ls hP hS hl
  obtain ⟨hx, hb, hml, hown, hr, hlocks, hts, ho, hK, hSt, hNw⟩ := id X
  exact lv_if_eq hx hb hd ht (fun q => kt q p l e s m args below meth c D G X H locs ls hP hS hl) (fun q => kf q p l e s m args below meth c D G X H locs ls hP hS hl)

theorem pm_icmp_eq {L : pm_L} {M : pm_M} {pc : Nat} {lv : List (Option Value)} {st : List Value} {w : pm_W} {Q : Option Value → pm_W → Prop} {x y : Int32} {off : Int} {tgt : Nat} (hd : decode M.2.1 pc = .ok (.if_icmp .eq off, 3)) (ht : (pc : Int) + off = (tgt : Int)) (kt : x = y → pm_R L M tgt lv st w Q) (kf : ¬ x = y → pm_R L M (pc + 3) lv st w Q) : pm_R L M pc lv (.int y :: .int x :: st) w Q := by
  intro p l e s m args below meth c D G X H locs ls hP hS hl
  obtain ⟨hx, hb, hml, hown, hr, hlocks, hts, ho, hK, hSt, hNw⟩ := id X
  exact lv_icmp_eq hx hb hd ht (fun q => kt q p l e s m args below meth c D G X H locs ls hP hS hl) (fun q => kf q p l e s m args below meth c D G X H locs ls hP hS hl)

theorem pm_if_ne {L : pm_L} {M : pm_M} {pc : Nat} {lv : List (Option Value)} {st : List Value} {w : pm_W} {Q : Option Value → pm_W → Prop} {x : Int32} {off : Int} {tgt : Nat} (hd : decode M.2.1 pc = .ok (.ifCond .ne off, 3)) (ht : (pc : Int) + off = (tgt : Int)) (kt : ¬ x = 0 → pm_R L M tgt lv st w Q) (kf : x = 0 → pm_R L M (pc + 3) lv st w Q) : pm_R L M pc lv (.int x :: st) w Q := by
  intro p l e s m args below meth c D G X H locs ls hP hS hl
  obtain ⟨hx, hb, hml, hown, hr, hlocks, hts, ho, hK, hSt, hNw⟩ := id X
  exact lv_if_ne hx hb hd ht (fun q => kt q p l e s m args below meth c D G X H locs ls hP hS hl) (fun q => kf q p l e s m args below meth c D G X H locs ls hP hS hl)

theorem pm_icmp_ne {L : pm_L} {M : pm_M} {pc : Nat} {lv : List (Option Value)} {st : List Value} {w : pm_W} {Q : Option Value → pm_W → Prop} {x y : Int32} {off : Int} {tgt : Nat} (hd : decode M.2.1 pc = .ok (.if_icmp .ne off, 3)) (ht : (pc : Int) + off = (tgt : Int)) (kt : ¬ x = y → pm_R L M tgt lv st w Q) (kf : x = y → pm_R L M (pc + 3) lv st w Q) : pm_R L M pc lv (.int y :: .int x :: st) w Q := by
  intro p l e s m args below meth c D G X H locs ls hP hS hl
  obtain ⟨hx, hb, hml, hown, hr, hlocks, hts, ho, hK, hSt, hNw⟩ := id X
  exact lv_icmp_ne hx hb hd ht (fun q => kt q p l e s m args below meth c D G X H locs ls hP hS hl) (fun q => kf q p l e s m args below meth c D G X H locs ls hP hS hl)

theorem pm_if_lt {L : pm_L} {M : pm_M} {pc : Nat} {lv : List (Option Value)} {st : List Value} {w : pm_W} {Q : Option Value → pm_W → Prop} {x : Int32} {off : Int} {tgt : Nat} (hd : decode M.2.1 pc = .ok (.ifCond .lt off, 3)) (ht : (pc : Int) + off = (tgt : Int)) (kt : x < 0 → pm_R L M tgt lv st w Q) (kf : ¬ x < 0 → pm_R L M (pc + 3) lv st w Q) : pm_R L M pc lv (.int x :: st) w Q := by
  intro p l e s m args below meth c D G X H locs ls hP hS hl
  obtain ⟨hx, hb, hml, hown, hr, hlocks, hts, ho, hK, hSt, hNw⟩ := id X
  exact lv_if_lt hx hb hd ht (fun q => kt q p l e s m args below meth c D G X H locs ls hP hS hl) (fun q => kf q p l e s m args below meth c D G X H locs ls hP hS hl)

theorem pm_icmp_lt {L : pm_L} {M : pm_M} {pc : Nat} {lv : List (Option Value)} {st : List Value} {w : pm_W} {Q : Option Value → pm_W → Prop} {x y : Int32} {off : Int} {tgt : Nat} (hd : decode M.2.1 pc = .ok (.if_icmp .lt off, 3)) (ht : (pc : Int) + off = (tgt : Int)) (kt : x < y → pm_R L M tgt lv st w Q) (kf : ¬ x < y → pm_R L M (pc + 3) lv st w Q) : pm_R L M pc lv (.int y :: .int x :: st) w Q := by
  intro p l e s m args below meth c D G X H locs ls hP hS hl
  obtain ⟨hx, hb, hml, hown, hr, hlocks, hts, ho, hK, hSt, hNw⟩ := id X
  exact lv_icmp_lt hx hb hd ht (fun q => kt q p l e s m args below meth c D G X H locs ls hP hS hl) (fun q => kf q p l e s m args below meth c D G X H locs ls hP hS hl)

theorem pm_if_ge {L : pm_L} {M : pm_M} {pc : Nat} {lv : List (Option Value)} {st : List Value} {w : pm_W} {Q : Option Value → pm_W → Prop} {x : Int32} {off : Int} {tgt : Nat} (hd : decode M.2.1 pc = .ok (.ifCond .ge off, 3)) (ht : (pc : Int) + off = (tgt : Int)) (kt : 0 ≤ x → pm_R L M tgt lv st w Q) (kf : ¬ 0 ≤ x → pm_R L M (pc + 3) lv st w Q) : pm_R L M pc lv (.int x :: st) w Q := by
  intro p l e s m args below meth c D G X H locs ls hP hS hl
  obtain ⟨hx, hb, hml, hown, hr, hlocks, hts, ho, hK, hSt, hNw⟩ := id X
  exact lv_if_ge hx hb hd ht (fun q => kt q p l e s m args below meth c D G X H locs ls hP hS hl) (fun q => kf q p l e s m args below meth c D G X H locs ls hP hS hl)

theorem pm_icmp_ge {L : pm_L} {M : pm_M} {pc : Nat} {lv : List (Option Value)} {st : List Value} {w : pm_W} {Q : Option Value → pm_W → Prop} {x y : Int32} {off : Int} {tgt : Nat} (hd : decode M.2.1 pc = .ok (.if_icmp .ge off, 3)) (ht : (pc : Int) + off = (tgt : Int)) (kt : y ≤ x → pm_R L M tgt lv st w Q) (kf : ¬ y ≤ x → pm_R L M (pc + 3) lv st w Q) : pm_R L M pc lv (.int y :: .int x :: st) w Q := by
  intro p l e s m args below meth c D G X H locs ls hP hS hl
  obtain ⟨hx, hb, hml, hown, hr, hlocks, hts, ho, hK, hSt, hNw⟩ := id X
  exact lv_icmp_ge hx hb hd ht (fun q => kt q p l e s m args below meth c D G X H locs ls hP hS hl) (fun q => kf q p l e s m args below meth c D G X H locs ls hP hS hl)

theorem pm_if_gt {L : pm_L} {M : pm_M} {pc : Nat} {lv : List (Option Value)} {st : List Value} {w : pm_W} {Q : Option Value → pm_W → Prop} {x : Int32} {off : Int} {tgt : Nat} (hd : decode M.2.1 pc = .ok (.ifCond .gt off, 3)) (ht : (pc : Int) + off = (tgt : Int)) (kt : 0 < x → pm_R L M tgt lv st w Q) (kf : ¬ 0 < x → pm_R L M (pc + 3) lv st w Q) : pm_R L M pc lv (.int x :: st) w Q := by
  intro p l e s m args below meth c D G X H locs ls hP hS hl
  obtain ⟨hx, hb, hml, hown, hr, hlocks, hts, ho, hK, hSt, hNw⟩ := id X
  exact lv_if_gt hx hb hd ht (fun q => kt q p l e s m args below meth c D G X H locs ls hP hS hl) (fun q => kf q p l e s m args below meth c D G X H locs ls hP hS hl)

theorem pm_icmp_gt {L : pm_L} {M : pm_M} {pc : Nat} {lv : List (Option Value)} {st : List Value} {w : pm_W} {Q : Option Value → pm_W → Prop} {x y : Int32} {off : Int} {tgt : Nat} (hd : decode M.2.1 pc = .ok (.if_icmp .gt off, 3)) (ht : (pc : Int) + off = (tgt : Int)) (kt : y < x → pm_R L M tgt lv st w Q) (kf : ¬ y < x → pm_R L M (pc + 3) lv st w Q) : pm_R L M pc lv (.int y :: .int x :: st) w Q := by
  intro p l e s m args below meth c D G X H locs ls hP hS hl
  obtain ⟨hx, hb, hml, hown, hr, hlocks, hts, ho, hK, hSt, hNw⟩ := id X
  exact lv_icmp_gt hx hb hd ht (fun q => kt q p l e s m args below meth c D G X H locs ls hP hS hl) (fun q => kf q p l e s m args below meth c D G X H locs ls hP hS hl)

theorem pm_if_le {L : pm_L} {M : pm_M} {pc : Nat} {lv : List (Option Value)} {st : List Value} {w : pm_W} {Q : Option Value → pm_W → Prop} {x : Int32} {off : Int} {tgt : Nat} (hd : decode M.2.1 pc = .ok (.ifCond .le off, 3)) (ht : (pc : Int) + off = (tgt : Int)) (kt : x ≤ 0 → pm_R L M tgt lv st w Q) (kf : ¬ x ≤ 0 → pm_R L M (pc + 3) lv st w Q) : pm_R L M pc lv (.int x :: st) w Q := by
  intro p l e s m args below meth c D G X H locs ls hP hS hl
  obtain ⟨hx, hb, hml, hown, hr, hlocks, hts, ho, hK, hSt, hNw⟩ := id X
  exact lv_if_le hx hb hd ht (fun q => kt q p l e s m args below meth c D G X H locs ls hP hS hl) (fun q => kf q p l e s m args below meth c D G X H locs ls hP hS hl)

theorem pm_icmp_le {L : pm_L} {M : pm_M} {pc : Nat} {lv : List (Option Value)} {st : List Value} {w : pm_W} {Q : Option Value → pm_W → Prop} {x y : Int32} {off : Int} {tgt : Nat} (hd : decode M.2.1 pc = .ok (.if_icmp .le off, 3)) (ht : (pc : Int) + off = (tgt : Int)) (kt : x ≤ y → pm_R L M tgt lv st w Q) (kf : ¬ x ≤ y → pm_R L M (pc + 3) lv st w Q) : pm_R L M pc lv (.int y :: .int x :: st) w Q := by
  intro p l e s m args below meth c D G X H locs ls hP hS hl
  obtain ⟨hx, hb, hml, hown, hr, hlocks, hts, ho, hK, hSt, hNw⟩ := id X
  exact lv_icmp_le hx hb hd ht (fun q => kt q p l e s m args below meth c D G X H locs ls hP hS hl) (fun q => kf q p l e s m args below meth c D G X H locs ls hP hS hl)

theorem pm_goto {L : pm_L} {M : pm_M} {pc : Nat} {lv : List (Option Value)} {st : List Value} {w : pm_W} {Q : Option Value → pm_W → Prop} {off : Int} {tgt : Nat} (hd : decode M.2.1 pc = .ok (.goto off, 3)) (ht : (pc : Int) + off = (tgt : Int)) (h : pm_R L M tgt lv st w Q) : pm_R L M pc lv (st) w Q := by
  intro p l e s m args below meth c D G X H locs ls hP hS hl
  obtain ⟨hx, hb, hml, hown, hr, hlocks, hts, ho, hK, hSt, hNw⟩ := id X
  exact lv_goto hx hb hd ht (h p l e s m args below meth c D G X H locs ls hP hS hl)

theorem pm_tableOut {L : pm_L} {M : pm_M} {pc : Nat} {lv : List (Option Value)} {st : List Value} {w : pm_W} {Q : Option Value → pm_W → Prop} {dflt lo hi : Int} {offs : Array Int} {len : Nat} {x : Int32} {tgt : Nat} (hd : decode M.2.1 pc = .ok (.tableswitch dflt lo hi offs, len)) (h1 : x.toInt < lo ∨ hi < x.toInt) (ht : (pc : Int) + dflt = (tgt : Int)) (h : pm_R L M tgt lv st w Q) : pm_R L M pc lv (.int x :: st) w Q := by
  intro p l e s m args below meth c D G X H locs ls hP hS hl
  obtain ⟨hx, hb, hml, hown, hr, hlocks, hts, ho, hK, hSt, hNw⟩ := id X
  exact lv_tableOut hx hb hd h1 ht (h p l e s m args below meth c D G X H locs ls hP hS hl)

theorem pm_tableIn {L : pm_L} {M : pm_M} {pc : Nat} {lv : List (Option Value)} {st : List Value} {w : pm_W} {Q : Option Value → pm_W → Prop} {dflt lo hi : Int} {offs : Array Int} {len : Nat} {x : Int32} {off : Int} {tgt : Nat} (hd : decode M.2.1 pc = .ok (.tableswitch dflt lo hi offs, len)) (h1 : ¬ x.toInt < lo) (h2 : ¬ hi < x.toInt) (h3 : offs[(x.toInt - lo).toNat]? = some off) (ht : (pc : Int) + off = (tgt : Int)) (h : pm_R L M tgt lv st w Q) : pm_R L M pc lv (.int x :: st) w Q := by
  intro p l e s m args below meth c D G X H locs ls hP hS hl
  obtain ⟨hx, hb, hml, hown, hr, hlocks, hts, ho, hK, hSt, hNw⟩ := id X
  exact lv_tableIn hx hb hd h1 h2 h3 ht (h p l e s m args below meth c D G X H locs ls hP hS hl)

theorem pm_ireturn {L : pm_L} {M : pm_M} {pc : Nat} {lv : List (Option Value)} {st : List Value} {w : pm_W} {Q : Option Value → pm_W → Prop} {x : Int32} (hd : decode M.2.1 pc = .ok (.ireturn, 1)) (hty : M.2.2.2.1 = some .int) (h : Q (some (.int x)) w) : pm_R L M pc lv ([.int x]) w Q := by
  intro p l e s m args below meth c D G X H locs ls hP hS hl
  obtain ⟨hx, hb, hml, hown, hr, hlocks, hts, ho, hK, hSt, hNw⟩ := id X
  exact W.iret (v := x) hx hb (hr.trans hty) (fun t ht hW => ⟨⟨some (.int x), w, rfl, h, by rw [ht]; exact hP⟩, hS.F ht⟩) hS.2.2 hd hlocks

theorem pm_zreturn {L : pm_L} {M : pm_M} {pc : Nat} {lv : List (Option Value)} {st : List Value} {w : pm_W} {Q : Option Value → pm_W → Prop} {x : Int32} (hd : decode M.2.1 pc = .ok (.ireturn, 1)) (hty : M.2.2.2.1 = some .boolean) (hz : x = 0 ∨ x = 1) (h : Q (some (.int x)) w) : pm_R L M pc lv ([.int x]) w Q := by
  intro p l e s m args below meth c D G X H locs ls hP hS hl
  obtain ⟨hx, hb, hml, hown, hr, hlocks, hts, ho, hK, hSt, hNw⟩ := id X
  exact W.zret (v := x) hx hb (hr.trans hty) (by rcases hz with rfl | rfl <;> decide) (fun t ht hW => ⟨⟨some (.int x), w, rfl, h, by rw [ht]; exact hP⟩, hS.F ht⟩) hS.2.2 hd hlocks

theorem pm_lreturn {L : pm_L} {M : pm_M} {pc : Nat} {lv : List (Option Value)} {st : List Value} {w : pm_W} {Q : Option Value → pm_W → Prop} {x : Int64} (hd : decode M.2.1 pc = .ok (.lreturn, 1)) (hty : M.2.2.2.1 = some .long) (h : Q (some (.long x)) w) : pm_R L M pc lv ([.long x]) w Q := by
  intro p l e s m args below meth c D G X H locs ls hP hS hl
  obtain ⟨hx, hb, hml, hown, hr, hlocks, hts, ho, hK, hSt, hNw⟩ := id X
  exact W.lret (v := x) hx hb (hr.trans hty) (fun t ht hW => ⟨⟨some (.long x), w, rfl, h, by rw [ht]; exact hP⟩, hS.F ht⟩) hS.2.2 hd hlocks

theorem pm_return {L : pm_L} {M : pm_M} {pc : Nat} {lv : List (Option Value)} {st : List Value} {w : pm_W} {Q : Option Value → pm_W → Prop}  (hd : decode M.2.1 pc = .ok (.return_, 1)) (hty : M.2.2.2.1 = none) (h : Q none w) : pm_R L M pc lv ([]) w Q := by
  intro p l e s m args below meth c D G X H locs ls hP hS hl
  obtain ⟨hx, hb, hml, hown, hr, hlocks, hts, ho, hK, hSt, hNw⟩ := id X
  exact W.vret hx hb (hr.trans hty) (fun t ht hW => ⟨⟨none, w, rfl, h, by rw [ht]; exact hP⟩, hS.F ht⟩) hS.2.2 hd hlocks
end
section
def pm_ent : List Value → List (Option Value)
  | [] => []
  | v :: vs => if v.category = 2 then some v :: none :: pm_ent vs else some v :: pm_ent vs
theorem pm_ent_at {G : pm_G} : ∀ (vs : List Value) (o i : Nat) (v : Value), (pm_ent vs)[i]? = some (some v) → (o + i, pm_v G v) ∈ lv_args o (vs.map (pm_v G))
  | [], o, i, v, h => by simp [pm_ent] at h
  | a :: vs, o, i, v, h => by
    unfold pm_ent at h
    show (o + i, pm_v G v) ∈ (o, pm_v G a) :: lv_args (if (pm_v G a).category = 2 then o + 2 else o + 1) (vs.map (pm_v G))
    rw [pm_v_cat]
    by_cases hc : a.category = 2
    · rw [if_pos hc] at h ⊢
      match i, h with
      | 0, h => simp at h; subst h; exact List.mem_cons_self
      | 1, h => simp at h
      | i + 2, h =>
        have := pm_ent_at (G := G) vs (o + 2) i v (by simpa using h)
        exact List.mem_cons_of_mem _ (by rw [show o + (i + 2) = o + 2 + i by omega]; exact this)
    · rw [if_neg hc] at h ⊢
      match i, h with
      | 0, h => simp at h; subst h; exact List.mem_cons_self
      | i + 1, h =>
        have := pm_ent_at (G := G) vs (o + 1) i v (by simpa using h)
        exact List.mem_cons_of_mem _ (by rw [show o + (i + 1) = o + 1 + i by omega]; exact this)
theorem pm_sl_len (G : pm_G) : ∀ vs : List Value, (lg_sl (vs.map (pm_v G))).length = (pm_ent vs).length
  | [] => rfl
  | a :: vs => by
    have ih := pm_sl_len G vs
    by_cases hc : a.category = 2
    · have h2 : (pm_v G a).category = 2 := by rw [pm_v_cat]; exact hc
      simp [lg_sl, pm_ent, hc, h2] at ih ⊢
      omega
    · have h2 : ¬ (pm_v G a).category = 2 := by rw [pm_v_cat]; exact hc
      simp [lg_sl, pm_ent, hc, h2] at ih ⊢
      omega
/-- a contract out of a walk from the entry -/
theorem pm_enter {L : pm_L} {M : pm_M} {as : List Value} {lv : List (Option Value)} {w : pm_W} {Q : Option Value → pm_W → Prop} (hy : plainName M.1.cls = true) (hn : (pm_ent as).length ≤ M.2.2.1) (hlv : ∀ (i : Nat) (v : Value), lv[i]? = some (some v) → (pm_ent as)[i]? = some (some v)) (h : pm_R L M 0 lv [] w Q) : pm_C L M as w Q := by
  intro l D G ho
  refine Met.ofW (cc := M.2.1) (maxL := M.2.2.1) (ret := M.2.2.2.1) hy rfl ?_
  intro p e s m args below meth c s₁ B hml hv
  obtain ⟨rfl, hP, hK⟩ := hv
  have hl := lv_entry (as.map (pm_v G)) (n := M.2.2.1) (by rw [pm_sl_len]; exact hn)
  rw [lg_entry_eq]
  refine h p l e s m _ below meth c D G ⟨B.exec, B.bytes, hml, findClass_of_methodNamed B.named, B.returns, B.notSynchronized, atoms_spec (ws := pm_ws M) B.pre, ho, hK⟩ s.heap [] _ hP va_S.rf ⟨hl.1, hl.2.1, fun q hq => ?_⟩
  obtain ⟨a, u⟩ := q
  obtain ⟨v, h1, rfl⟩ := pm_lv_mem.mp hq
  have := pm_ent_at (G := G) as 0 a v (hlv a v h1)
  rw [Nat.zero_add] at this
  exact hl.2.2 _ this
-- cells by their layout
theorem pm_cell_i {L : pm_L} {G : pm_G} {w : pm_W} {k n : Nat} (h : L.1 k = (10, n)) : pm_cell L G w k = .inl (G.2 10, n, .inl (w.1 k)) := by simp [pm_cell, h]
theorem pm_cell_z {L : pm_L} {G : pm_G} {w : pm_W} {k n : Nat} (h : L.1 k = (11, n)) : pm_cell L G w k = .inl (G.2 11, n, .inl (w.1 k)) := by simp [pm_cell, h]
theorem pm_cell_l {L : pm_L} {G : pm_G} {w : pm_W} {k n : Nat} (h : L.1 k = (12, n)) : pm_cell L G w k = .inl (G.2 12, n, .inr (.inl (w.2 k))) := by simp [pm_cell, h]
theorem pm_cell_h {L : pm_L} {G : pm_G} {w : pm_W} {k n : Nat} (h : L.1 k = (13, n)) : pm_cell L G w k = .inl (G.2 13, n, .inr (.inr (.inr (.inr (fun j => (L.2 k j).map G.1))))) := by simp [pm_cell, h]
theorem pm_cell_k {L : pm_L} {G : pm_G} {w : pm_W} {k n : Nat} (h : L.1 k = (14, n)) : pm_cell L G w k = .inl (G.2 14, n, .inr (.inr (.inr (.inr (fun j => (L.2 k j).map G.1))))) := by simp [pm_cell, h]
theorem pm_cell_o {L : pm_L} {G : pm_G} {w : pm_W} {k n ci : Nat} (hc : ci < 6) (h : L.1 k = (ci, n)) : pm_cell L G w k = .inr (ci, (List.range n).map (fun j => pm_fv L G w k (pm_ty ci j) j)) := by
  simp only [pm_cell, h]
  rw [if_neg (by omega), if_neg (by omega), if_neg (by omega), if_neg (by omega), if_neg (by omega)]
/-- the cell k holds f -/
def pm_s (w : pm_W) (k : Nat) (f : Nat → Int32) : pm_W := (fun a => if a = k then f else w.1 a, w.2)
def pm_sL (w : pm_W) (k : Nat) (f : Nat → Int64) : pm_W := (w.1, fun a => if a = k then f else w.2 a)
theorem pm_s_at (w : pm_W) (k : Nat) (f : Nat → Int32) : (pm_s w k f).1 k = f := if_pos rfl
theorem pm_s_ne {w : pm_W} {k a : Nat} {f : Nat → Int32} (h : a ≠ k) : (pm_s w k f).1 a = w.1 a := if_neg h
theorem pm_s_2 (w : pm_W) (k : Nat) (f : Nat → Int32) : (pm_s w k f).2 = w.2 := rfl
theorem pm_sL_at (w : pm_W) (k : Nat) (f : Nat → Int64) : (pm_sL w k f).2 k = f := if_pos rfl
theorem pm_sL_ne {w : pm_W} {k a : Nat} {f : Nat → Int64} (h : a ≠ k) : (pm_sL w k f).2 a = w.2 a := if_neg h
theorem pm_sL_1 (w : pm_W) (k : Nat) (f : Nat → Int64) : (pm_sL w k f).1 = w.1 := rfl
theorem pm_fv_s {L : pm_L} {G : pm_G} {w : pm_W} {k a j : Nat} {f : Nat → Int32} {ty : FieldType} (h : a ≠ k) : pm_fv L G (pm_s w k f) a ty j = pm_fv L G w a ty j := by
  unfold pm_fv
  cases ty <;> simp [pm_s, h]
theorem pm_fv_sL {L : pm_L} {G : pm_G} {w : pm_W} {k a j : Nat} {f : Nat → Int64} {ty : FieldType} (h : a ≠ k) : pm_fv L G (pm_sL w k f) a ty j = pm_fv L G w a ty j := by
  unfold pm_fv
  cases ty <;> simp [pm_sL, h]
theorem pm_cell_s {L : pm_L} {G : pm_G} {w : pm_W} {k : Nat} {f : Nat → Int32} : ∀ j, j ≠ k → pm_cell L G (pm_s w k f) j = pm_cell L G w j := by
  intro j h
  simp only [pm_cell, pm_s_ne h, pm_s_2, pm_fv_s h]
theorem pm_cell_sL {L : pm_L} {G : pm_G} {w : pm_W} {k : Nat} {f : Nat → Int64} : ∀ j, j ≠ k → pm_cell L G (pm_sL w k f) j = pm_cell L G w j := by
  intro j h
  simp only [pm_cell, pm_sL_ne h, pm_sL_1, pm_fv_sL h]
/-- the field j of class ci, as the constant pool of class own has it at idx -/
def pm_FL (own : String) (idx ci j : Nat) : Prop := Jvm.Cond.fieldLink own idx (pm_T ci j).1 (pm_T ci j).2.1 (pm_T ci j).2.2.1 ∈ pm_good
theorem pm_fs_at {n j : Nat} {g : Nat → Value} (h : j < n) : ((List.range n).map g)[j]? = some (g j) := by
  rw [List.getElem?_map, List.getElem?_range h]
  rfl
theorem pm_fs_set {n j : Nat} {g g' : Nat → Value} {v : Value} (h : j < n) (hv : v = g' j) (hx : ∀ i, i ≠ j → g' i = g i) : ((List.range n).map g).set j v = (List.range n).map g' := by
  apply List.ext_getElem?
  intro i
  by_cases hi : i = j
  · subst hi
    rw [List.getElem?_set_self (by simpa using h), pm_fs_at h, hv]
  · rw [List.getElem?_set_ne (Ne.symm hi)]
    by_cases hn : i < n
    · rw [pm_fs_at hn, pm_fs_at hn, hx i hi]
    · rw [List.getElem?_eq_none (by simpa using Nat.le_of_not_lt hn), List.getElem?_eq_none (by simpa using Nat.le_of_not_lt hn)]

def pm_isR : FieldType → Bool
  | .object _ => true
  | .array _ => true
  | _ => false
theorem pm_fv_r {L : pm_L} {G : pm_G} {w : pm_W} {k j a : Nat} {ty : FieldType} (h : pm_isR ty = true) (hr : L.2 k j = some a) : pm_fv L G w k ty j = pm_v G (.ref a) := by
  cases ty <;> first | (cases h; done) | (simp [pm_fv, hr, pm_v, va_rf])
theorem pm_K_moved {L : pm_L} {D : va_G} {G : pm_G} {s U : State} {locs : List Loc} (hW : s.WarmedH U.vm) (hS : va_S (pm_A L G) s.heap U.heap locs) (h : pm_K L D G s) : pm_K L D G U := by
  obtain ⟨hK, ⟨h1, h2, h3, h4⟩, hN⟩ := h
  refine ⟨hK.moved hW.alike, ⟨(h1.moved hW.alike).kept hS.2.1, (h2.moved hW.alike).kept hS.2.1, (h3.moved hW.alike).kept hS.2.1, (h4.moved hW.alike).kept hS.2.1⟩, fun w hw => ?_⟩
  have h9 := hN w hw
  simp only [pm_nest, List.mem_cons, List.not_mem_nil, or_false] at hw
  rcases hw with rfl | rfl
  · exact va_Nw.warmM hW h9
  · exact va_Nw.warmM hW h9
theorem pm_K_same {L : pm_L} {D : va_G} {G : pm_G} {s U : State} (hv : s.vm = U.vm) (hh : s.heap = U.heap) (h : pm_K L D G s) : pm_K L D G U := by
  have hW : s.vm.Alike U.vm := by rw [hv]; exact Vm.Alike.refl _
  obtain ⟨hK, ⟨h1, h2, h3, h4⟩, hN⟩ := h
  refine ⟨hK.moved hW, ⟨?_, ?_, ?_, ?_⟩, fun w hw => ?_⟩
  · rw [← hh]; exact h1.moved hW
  · rw [← hh]; exact h2.moved hW
  · rw [← hh]; exact h3.moved hW
  · rw [← hh]; exact h4.moved hW
  · have h9 := hN w hw
    simp only [pm_nest, List.mem_cons, List.not_mem_nil, or_false] at hw
    rcases hw with rfl | rfl
    · exact va_Nw.same rfl hv h9
    · exact va_Nw.same rfl hv h9
theorem pm_blind {L : pm_L} {D : va_G} {G : pm_G} {av : List Value} {w : pm_W} : FrameBlind (va_Pc av (fun U => va_P D pm_cl (pm_cells L G w) U.heap ∧ pm_K L D G U)) := by
  intro a U g mk h
  obtain ⟨h1, h2, h3⟩ := h
  exact ⟨h1, h2, pm_K_same (s := U) (U := U.calling g mk a) rfl rfl h3⟩

theorem pm_getI {L : pm_L} {M : pm_M} {pc : Nat} {lv : List (Option Value)} {st : List Value} {w : pm_W} {Q : Option Value → pm_W → Prop} {ci j k n idx : Nat} (hk : L.1 k = (ci, n)) (hc : ci < 6) (hj : j < n) (hN : n = pm_N ci) (hf : pm_FL M.1.cls idx ci j) (hty : pm_ty ci j = .int) (hd : decode M.2.1 pc = .ok (.getfield idx, 3)) (h : pm_R L M (pc + 3) lv (.int (w.1 k j) :: st) w Q) : pm_R L M pc lv (.ref k :: st) w Q := by
  intro p l e s m args below meth c D G X H locs ls hP hS hl
  obtain ⟨hx, hb, hml, hown, hr, hlocks, hts, ho, hK, hSt, hNw⟩ := id X
  have hm : k ∈ pm_ks L := pm_there ho (by rw [hk]; simp only; omega)
  obtain ⟨q0, hq0⟩ := pm_cells_at (G := G) w hm
  rw [pm_cell_o hc hk] at hq0
  have h1 := h p l e s m args below meth c D G X H locs ls hP hS hl
  refine va_get hx hb (Ts := pm_ws M) hts (fun w hw => List.mem_cons_of_mem _ (pm_lays hc w hw)) hown hK hP q0 hq0 (pm_cl_at hc) j (hN ▸ hj) (hts _ (List.mem_cons_of_mem _ hf)) (fun _ h9 => h9) (pm_fs_at hj) hd ?_
  rw [hty]
  exact h1

theorem pm_getL {L : pm_L} {M : pm_M} {pc : Nat} {lv : List (Option Value)} {st : List Value} {w : pm_W} {Q : Option Value → pm_W → Prop} {ci j k n idx : Nat} (hk : L.1 k = (ci, n)) (hc : ci < 6) (hj : j < n) (hN : n = pm_N ci) (hf : pm_FL M.1.cls idx ci j) (hty : pm_ty ci j = .long) (hd : decode M.2.1 pc = .ok (.getfield idx, 3)) (h : pm_R L M (pc + 3) lv (.long (w.2 k j) :: st) w Q) : pm_R L M pc lv (.ref k :: st) w Q := by
  intro p l e s m args below meth c D G X H locs ls hP hS hl
  obtain ⟨hx, hb, hml, hown, hr, hlocks, hts, ho, hK, hSt, hNw⟩ := id X
  have hm : k ∈ pm_ks L := pm_there ho (by rw [hk]; simp only; omega)
  obtain ⟨q0, hq0⟩ := pm_cells_at (G := G) w hm
  rw [pm_cell_o hc hk] at hq0
  have h1 := h p l e s m args below meth c D G X H locs ls hP hS hl
  refine va_get hx hb (Ts := pm_ws M) hts (fun w hw => List.mem_cons_of_mem _ (pm_lays hc w hw)) hown hK hP q0 hq0 (pm_cl_at hc) j (hN ▸ hj) (hts _ (List.mem_cons_of_mem _ hf)) (fun _ h9 => h9) (pm_fs_at hj) hd ?_
  rw [hty]
  exact h1

theorem pm_getR {L : pm_L} {M : pm_M} {pc : Nat} {lv : List (Option Value)} {st : List Value} {w : pm_W} {Q : Option Value → pm_W → Prop} {ci j k n idx : Nat} {a : Nat} (hk : L.1 k = (ci, n)) (hc : ci < 6) (hj : j < n) (hN : n = pm_N ci) (hf : pm_FL M.1.cls idx ci j) (hty : pm_isR (pm_ty ci j) = true) (hr2 : L.2 k j = some a) (hd : decode M.2.1 pc = .ok (.getfield idx, 3)) (h : pm_R L M (pc + 3) lv (.ref a :: st) w Q) : pm_R L M pc lv (.ref k :: st) w Q := by
  intro p l e s m args below meth c D G X H locs ls hP hS hl
  obtain ⟨hx, hb, hml, hown, hr, hlocks, hts, ho, hK, hSt, hNw⟩ := id X
  have hm : k ∈ pm_ks L := pm_there ho (by rw [hk]; simp only; omega)
  obtain ⟨q0, hq0⟩ := pm_cells_at (G := G) w hm
  rw [pm_cell_o hc hk] at hq0
  have h1 := h p l e s m args below meth c D G X H locs ls hP hS hl
  refine va_get hx hb (Ts := pm_ws M) hts (fun w hw => List.mem_cons_of_mem _ (pm_lays hc w hw)) hown hK hP q0 hq0 (pm_cl_at hc) j (hN ▸ hj) (hts _ (List.mem_cons_of_mem _ hf)) (fun _ h9 => h9) (pm_fs_at hj) hd ?_
  rw [pm_fv_r hty hr2]
  exact h1

theorem pm_putI {L : pm_L} {M : pm_M} {pc : Nat} {lv : List (Option Value)} {st : List Value} {w : pm_W} {Q : Option Value → pm_W → Prop} {ci j k n idx : Nat} {x : Int32} (hk : L.1 k = (ci, n)) (hc : ci < 6) (hj : j < n) (hN : n = pm_N ci) (hf : pm_FL M.1.cls idx ci j) (hty : pm_ty ci j = .int) (hfin : (pm_T ci j).2.2.2 = false) (hd : decode M.2.1 pc = .ok (.putfield idx, 3)) (h : pm_R L M (pc + 3) lv st (pm_s w k (upd (w.1 k) j x)) Q) : pm_R L M pc lv (.int x :: .ref k :: st) w Q := by
  intro p l e s m args below meth c D G X H locs ls hP hS hl
  obtain ⟨hx, hb, hml, hown, hr, hlocks, hts, ho, hK, hSt, hNw⟩ := id X
  have hm : k ∈ pm_ks L := pm_there ho (by rw [hk]; simp only; omega)
  obtain ⟨q0, hq0⟩ := pm_cells_at (G := G) w hm
  have hq1 := hq0
  rw [pm_cell_o hc hk] at hq0
  refine va_put hx hb (Ts := pm_ws M) (ty := pm_ty ci j) (v := .int x) hts (fun w hw => List.mem_cons_of_mem _ (pm_lays hc w hw)) (pm_ty ci) (hN ▸ pm_tyok hc) (hN ▸ pm_nm hc) hown hK hP (pm_D ho w) hS q0 hq0 (pm_cl_at hc) j (hN ▸ hj) (hts _ (List.mem_cons_of_mem _ hf)) (fun _ h9 => h9) hfin (pm_tyok hc j (hN ▸ hj)) (by rw [hty]; rfl) (by rw [hty]; rfl) (by simpa using hj) hd (fun H1 locs1 hP1 _ hS1 => ?_)
  refine h p l e s m args below meth c D G X H1 locs1 ls (pm_P_set ho hq1 hm ?_ pm_cell_s hP1) hS1 hl
  rw [pm_cell_o hc hk]
  congr 2
  refine pm_fs_set hj (by rw [hty]; simp [pm_fv, pm_s, upd]) (fun i hi => ?_)
  unfold pm_fv
  cases pm_ty ci i <;> simp [pm_s, upd, hi]

theorem pm_putL {L : pm_L} {M : pm_M} {pc : Nat} {lv : List (Option Value)} {st : List Value} {w : pm_W} {Q : Option Value → pm_W → Prop} {ci j k n idx : Nat} {x : Int64} (hk : L.1 k = (ci, n)) (hc : ci < 6) (hj : j < n) (hN : n = pm_N ci) (hf : pm_FL M.1.cls idx ci j) (hty : pm_ty ci j = .long) (hfin : (pm_T ci j).2.2.2 = false) (hd : decode M.2.1 pc = .ok (.putfield idx, 3)) (h : pm_R L M (pc + 3) lv st (pm_sL w k (vp_updL (w.2 k) j x)) Q) : pm_R L M pc lv (.long x :: .ref k :: st) w Q := by
  intro p l e s m args below meth c D G X H locs ls hP hS hl
  obtain ⟨hx, hb, hml, hown, hr, hlocks, hts, ho, hK, hSt, hNw⟩ := id X
  have hm : k ∈ pm_ks L := pm_there ho (by rw [hk]; simp only; omega)
  obtain ⟨q0, hq0⟩ := pm_cells_at (G := G) w hm
  have hq1 := hq0
  rw [pm_cell_o hc hk] at hq0
  refine va_put hx hb (Ts := pm_ws M) (ty := pm_ty ci j) (v := .long x) hts (fun w hw => List.mem_cons_of_mem _ (pm_lays hc w hw)) (pm_ty ci) (hN ▸ pm_tyok hc) (hN ▸ pm_nm hc) hown hK hP (pm_D ho w) hS q0 hq0 (pm_cl_at hc) j (hN ▸ hj) (hts _ (List.mem_cons_of_mem _ hf)) (fun _ h9 => h9) hfin (pm_tyok hc j (hN ▸ hj)) (by rw [hty]; rfl) (by rw [hty]; rfl) (by simpa using hj) hd (fun H1 locs1 hP1 _ hS1 => ?_)
  refine h p l e s m args below meth c D G X H1 locs1 ls (pm_P_set ho hq1 hm ?_ pm_cell_sL hP1) hS1 hl
  rw [pm_cell_o hc hk]
  congr 2
  refine pm_fs_set hj (by rw [hty]; simp [pm_fv, pm_sL, vp_updL]) (fun i hi => ?_)
  unfold pm_fv
  cases pm_ty ci i <;> simp [pm_sL, vp_updL, hi]

theorem pm_iald {L : pm_L} {M : pm_M} {pc : Nat} {lv : List (Option Value)} {st : List Value} {w : pm_W} {Q : Option Value → pm_W → Prop} {k n : Nat} {i : Int32} (hk : L.1 k = (10, n)) (hin : vp_in i n) (hd : decode M.2.1 pc = .ok (.iaload, 1)) (h : pm_R L M (pc + 1) lv (.int (w.1 k i.toNatClampNeg) :: st) w Q) : pm_R L M pc lv (.int i :: .ref k :: st) w Q := by
  intro p l e s m args below meth c D G X H locs ls hP hS hl
  obtain ⟨hx, hb, hml, hown, hr, hlocks, hts, ho, hK, hSt, hNw⟩ := id X
  have hm : k ∈ pm_ks L := pm_there ho (by rw [hk]; simp)
  obtain ⟨q0, hq0⟩ := pm_cells_at (G := G) w hm
  rw [pm_cell_i hk] at hq0
  exact va_iald hx hb hK hP q0 0 hq0 rfl hin hd (h p l e s m args below meth c D G X H locs ls hP hS hl)

theorem pm_zald {L : pm_L} {M : pm_M} {pc : Nat} {lv : List (Option Value)} {st : List Value} {w : pm_W} {Q : Option Value → pm_W → Prop} {k n : Nat} {i : Int32} (hk : L.1 k = (11, n)) (hin : vp_in i n) (hd : decode M.2.1 pc = .ok (.baload, 1)) (h : pm_R L M (pc + 1) lv (.int (w.1 k i.toNatClampNeg) :: st) w Q) : pm_R L M pc lv (.int i :: .ref k :: st) w Q := by
  intro p l e s m args below meth c D G X H locs ls hP hS hl
  obtain ⟨hx, hb, hml, hown, hr, hlocks, hts, ho, hK, hSt, hNw⟩ := id X
  have hm : k ∈ pm_ks L := pm_there ho (by rw [hk]; simp)
  obtain ⟨q0, hq0⟩ := pm_cells_at (G := G) w hm
  rw [pm_cell_z hk] at hq0
  exact va_zald hx hb hK hP q0 1 hq0 rfl hin hd (h p l e s m args below meth c D G X H locs ls hP hS hl)

theorem pm_lald {L : pm_L} {M : pm_M} {pc : Nat} {lv : List (Option Value)} {st : List Value} {w : pm_W} {Q : Option Value → pm_W → Prop} {k n : Nat} {i : Int32} (hk : L.1 k = (12, n)) (hin : vp_in i n) (hd : decode M.2.1 pc = .ok (.laload, 1)) (h : pm_R L M (pc + 1) lv (.long (w.2 k i.toNatClampNeg) :: st) w Q) : pm_R L M pc lv (.int i :: .ref k :: st) w Q := by
  intro p l e s m args below meth c D G X H locs ls hP hS hl
  obtain ⟨hx, hb, hml, hown, hr, hlocks, hts, ho, hK, hSt, hNw⟩ := id X
  have hm : k ∈ pm_ks L := pm_there ho (by rw [hk]; simp)
  obtain ⟨q0, hq0⟩ := pm_cells_at (G := G) w hm
  rw [pm_cell_l hk] at hq0
  exact va_lald hx hb hK hP q0 2 hq0 rfl hin hd (h p l e s m args below meth c D G X H locs ls hP hS hl)

theorem pm_hald {L : pm_L} {M : pm_M} {pc : Nat} {lv : List (Option Value)} {st : List Value} {w : pm_W} {Q : Option Value → pm_W → Prop} {k n : Nat} {i : Int32} {a : Nat} (hk : L.1 k = (13, n)) (hin : vp_in i n) (hr2 : L.2 k i.toNatClampNeg = some a) (hd : decode M.2.1 pc = .ok (.aaload, 1)) (h : pm_R L M (pc + 1) lv (.ref a :: st) w Q) : pm_R L M pc lv (.int i :: .ref k :: st) w Q := by
  intro p l e s m args below meth c D G X H locs ls hP hS hl
  obtain ⟨hx, hb, hml, hown, hr, hlocks, hts, ho, hK, hSt, hNw⟩ := id X
  have hm : k ∈ pm_ks L := pm_there ho (by rw [hk]; simp)
  obtain ⟨q0, hq0⟩ := pm_cells_at (G := G) w hm
  rw [pm_cell_h hk] at hq0
  refine va_aldq hx hb hK hP q0 3 hq0 rfl hin hd ?_
  have h1 := h p l e s m args below meth c D G X H locs ls hP hS hl
  rw [hr2]
  exact h1

theorem pm_kald {L : pm_L} {M : pm_M} {pc : Nat} {lv : List (Option Value)} {st : List Value} {w : pm_W} {Q : Option Value → pm_W → Prop} {k n : Nat} {i : Int32} {a : Nat} (hk : L.1 k = (14, n)) (hin : vp_in i n) (hr2 : L.2 k i.toNatClampNeg = some a) (hd : decode M.2.1 pc = .ok (.aaload, 1)) (h : pm_R L M (pc + 1) lv (.ref a :: st) w Q) : pm_R L M pc lv (.int i :: .ref k :: st) w Q := by
  intro p l e s m args below meth c D G X H locs ls hP hS hl
  obtain ⟨hx, hb, hml, hown, hr, hlocks, hts, ho, hK, hSt, hNw⟩ := id X
  have hm : k ∈ pm_ks L := pm_there ho (by rw [hk]; simp)
  obtain ⟨q0, hq0⟩ := pm_cells_at (G := G) w hm
  rw [pm_cell_k hk] at hq0
  refine va_aldq hx hb hK hP q0 4 hq0 rfl hin hd ?_
  have h1 := h p l e s m args below meth c D G X H locs ls hP hS hl
  rw [hr2]
  exact h1

theorem pm_iast {L : pm_L} {M : pm_M} {pc : Nat} {lv : List (Option Value)} {st : List Value} {w : pm_W} {Q : Option Value → pm_W → Prop} {k n : Nat} {i : Int32} {x : Int32} (hk : L.1 k = (10, n)) (hin : vp_in i n) (hd : decode M.2.1 pc = .ok (.iastore, 1)) (h : pm_R L M (pc + 1) lv st (pm_s w k (upd (w.1 k) i.toNatClampNeg x)) Q) : pm_R L M pc lv (.int x :: .int i :: .ref k :: st) w Q := by
  intro p l e s m args below meth c D G X H locs ls hP hS hl
  obtain ⟨hx, hb, hml, hown, hr, hlocks, hts, ho, hK, hSt, hNw⟩ := id X
  have hm : k ∈ pm_ks L := pm_there ho (by rw [hk]; simp)
  obtain ⟨q0, hq0⟩ := pm_cells_at (G := G) w hm
  have hq1 := hq0
  rw [pm_cell_i hk] at hq0
  refine va_iast hx hb hK hP (pm_D ho w) hS q0 0 hq0 rfl hin hd (fun H1 locs1 hP1 _ hS1 => ?_)
  refine h p l e s m args below meth c D G X H1 locs1 ls (pm_P_set ho hq1 hm ?_ pm_cell_s hP1) hS1 hl
  rw [pm_cell_i hk]
  simp [pm_s, pm_sL]

theorem pm_zast {L : pm_L} {M : pm_M} {pc : Nat} {lv : List (Option Value)} {st : List Value} {w : pm_W} {Q : Option Value → pm_W → Prop} {k n : Nat} {i : Int32} {x : Int32} (hk : L.1 k = (11, n)) (hin : vp_in i n) (hz : x = 0 ∨ x = 1) (hd : decode M.2.1 pc = .ok (.bastore, 1)) (h : pm_R L M (pc + 1) lv st (pm_s w k (upd (w.1 k) i.toNatClampNeg x)) Q) : pm_R L M pc lv (.int x :: .int i :: .ref k :: st) w Q := by
  intro p l e s m args below meth c D G X H locs ls hP hS hl
  obtain ⟨hx, hb, hml, hown, hr, hlocks, hts, ho, hK, hSt, hNw⟩ := id X
  have hm : k ∈ pm_ks L := pm_there ho (by rw [hk]; simp)
  obtain ⟨q0, hq0⟩ := pm_cells_at (G := G) w hm
  have hq1 := hq0
  rw [pm_cell_z hk] at hq0
  refine va_zast hx hb hK hP (pm_D ho w) hS q0 1 hq0 rfl hin hd (fun H1 locs1 hP1 _ hS1 => ?_)
  refine h p l e s m args below meth c D G X H1 locs1 ls (pm_P_set ho hq1 hm ?_ pm_cell_s hP1) hS1 hl
  rw [pm_cell_z hk]
  rw [show vp_nar .boolean x = x by rcases hz with rfl | rfl <;> rfl]
  simp [pm_s, pm_sL]

theorem pm_last {L : pm_L} {M : pm_M} {pc : Nat} {lv : List (Option Value)} {st : List Value} {w : pm_W} {Q : Option Value → pm_W → Prop} {k n : Nat} {i : Int32} {x : Int64} (hk : L.1 k = (12, n)) (hin : vp_in i n) (hd : decode M.2.1 pc = .ok (.lastore, 1)) (h : pm_R L M (pc + 1) lv st (pm_sL w k (vp_updL (w.2 k) i.toNatClampNeg x)) Q) : pm_R L M pc lv (.long x :: .int i :: .ref k :: st) w Q := by
  intro p l e s m args below meth c D G X H locs ls hP hS hl
  obtain ⟨hx, hb, hml, hown, hr, hlocks, hts, ho, hK, hSt, hNw⟩ := id X
  have hm : k ∈ pm_ks L := pm_there ho (by rw [hk]; simp)
  obtain ⟨q0, hq0⟩ := pm_cells_at (G := G) w hm
  have hq1 := hq0
  rw [pm_cell_l hk] at hq0
  refine va_last hx hb hK hP (pm_D ho w) hS q0 2 hq0 rfl hin hd (fun H1 locs1 hP1 _ hS1 => ?_)
  refine h p l e s m args below meth c D G X H1 locs1 ls (pm_P_set ho hq1 hm ?_ pm_cell_sL hP1) hS1 hl
  rw [pm_cell_l hk]
  simp [pm_s, pm_sL]

theorem pm_alenI {L : pm_L} {M : pm_M} {pc : Nat} {lv : List (Option Value)} {st : List Value} {w : pm_W} {Q : Option Value → pm_W → Prop} {k n : Nat} (hk : L.1 k = (10, n)) (hd : decode M.2.1 pc = .ok (.arraylength, 1)) (h : pm_R L M (pc + 1) lv (.int (Int32.ofNat n) :: st) w Q) : pm_R L M pc lv (.ref k :: st) w Q := by
  intro p l e s m args below meth c D G X H locs ls hP hS hl
  obtain ⟨hx, hb, hml, hown, hr, hlocks, hts, ho, hK, hSt, hNw⟩ := id X
  have hm : k ∈ pm_ks L := pm_there ho (by rw [hk]; simp)
  obtain ⟨q0, hq0⟩ := pm_cells_at (G := G) w hm
  rw [pm_cell_i hk] at hq0
  exact va_alen (ty := .int) hx hb hK hP q0 0 hq0 rfl rfl hd (h p l e s m args below meth c D G X H locs ls hP hS hl)

theorem pm_alenL {L : pm_L} {M : pm_M} {pc : Nat} {lv : List (Option Value)} {st : List Value} {w : pm_W} {Q : Option Value → pm_W → Prop} {k n : Nat} (hk : L.1 k = (12, n)) (hd : decode M.2.1 pc = .ok (.arraylength, 1)) (h : pm_R L M (pc + 1) lv (.int (Int32.ofNat n) :: st) w Q) : pm_R L M pc lv (.ref k :: st) w Q := by
  intro p l e s m args below meth c D G X H locs ls hP hS hl
  obtain ⟨hx, hb, hml, hown, hr, hlocks, hts, ho, hK, hSt, hNw⟩ := id X
  have hm : k ∈ pm_ks L := pm_there ho (by rw [hk]; simp)
  obtain ⟨q0, hq0⟩ := pm_cells_at (G := G) w hm
  rw [pm_cell_l hk] at hq0
  exact va_alen (ty := .long) hx hb hK hP q0 2 hq0 rfl rfl hd (h p l e s m args below meth c D G X H locs ls hP hS hl)

theorem pm_gets_HAS {L : pm_L} {M : pm_M} {pc : Nat} {lv : List (Option Value)} {st : List Value} {w : pm_W} {Q : Option Value → pm_W → Prop} {idx : Nat} (hf : Jvm.Cond.fieldLink M.1.cls idx RX1 "HAS" "[J" ∈ pm_good) (hd : decode M.2.1 pc = .ok (.getstatic idx, 3)) (h : pm_R L M (pc + 3) lv (.ref 1000 :: st) w Q) : pm_R L M pc lv (st) w Q := by
  intro p l e s m args below meth c D G X H locs ls hP hS hl
  obtain ⟨hx, hb, hml, hown, hr, hlocks, hts, ho, hK, hSt, hNw⟩ := id X
  exact va_gets hx hb hSt.1 hS hown (hts _ (List.mem_cons_of_mem _ hf)) (fun _ h9 => h9) hd (h p l e s m args below meth c D G X H locs ls hP hS hl)

theorem pm_lald_HAS {L : pm_L} {M : pm_M} {pc : Nat} {lv : List (Option Value)} {st : List Value} {w : pm_W} {Q : Option Value → pm_W → Prop} {i : Int32} (hin : vp_in i 6) (hd : decode M.2.1 pc = .ok (.laload, 1)) (h : pm_R L M (pc + 1) lv (.long (pm_has.getD i.toNatClampNeg 0) :: st) w Q) : pm_R L M pc lv (.int i :: .ref 1000 :: st) w Q := by
  intro p l e s m args below meth c D G X H locs ls hP hS hl
  obtain ⟨hx, hb, hml, hown, hr, hlocks, hts, ho, hK, hSt, hNw⟩ := id X
  exact va_tl hx hb hSt.2.1 hS hin rfl hd (h p l e s m args below meth c D G X H locs ls hP hS hl)

theorem pm_gets_SIZED {L : pm_L} {M : pm_M} {pc : Nat} {lv : List (Option Value)} {st : List Value} {w : pm_W} {Q : Option Value → pm_W → Prop} {idx : Nat} (hf : Jvm.Cond.fieldLink M.1.cls idx RX1 "SIZED" "[J" ∈ pm_good) (hd : decode M.2.1 pc = .ok (.getstatic idx, 3)) (h : pm_R L M (pc + 3) lv (.ref 1001 :: st) w Q) : pm_R L M pc lv (st) w Q := by
  intro p l e s m args below meth c D G X H locs ls hP hS hl
  obtain ⟨hx, hb, hml, hown, hr, hlocks, hts, ho, hK, hSt, hNw⟩ := id X
  exact va_gets hx hb hSt.2.2.1 hS hown (hts _ (List.mem_cons_of_mem _ hf)) (fun _ h9 => h9) hd (h p l e s m args below meth c D G X H locs ls hP hS hl)

theorem pm_lald_SIZED {L : pm_L} {M : pm_M} {pc : Nat} {lv : List (Option Value)} {st : List Value} {w : pm_W} {Q : Option Value → pm_W → Prop} {i : Int32} (hin : vp_in i 7) (hd : decode M.2.1 pc = .ok (.laload, 1)) (h : pm_R L M (pc + 1) lv (.long (pm_sized.getD i.toNatClampNeg 0) :: st) w Q) : pm_R L M pc lv (.int i :: .ref 1001 :: st) w Q := by
  intro p l e s m args below meth c D G X H locs ls hP hS hl
  obtain ⟨hx, hb, hml, hown, hr, hlocks, hts, ho, hK, hSt, hNw⟩ := id X
  exact va_tl hx hb hSt.2.2.2 hS hin rfl hd (h p l e s m args below meth c D G X H locs ls hP hS hl)

def pm_MLV (own : String) (idx : Nat) (M : pm_M) (n : Nat) : Prop := (Jvm.Cond.methodLink own idx M.1 ∈ pm_good ∧ Jvm.Cond.instanceMethod M.1 ∈ pm_good ∧ Jvm.Cond.selects M.1.cls M.1 M.1 ∈ pm_good ∧ Jvm.Cond.initialized M.1.cls ∈ pm_good ∧ Jvm.Cond.code M.1 M.2.1 M.2.2.1 M.2.2.2.1 ∈ pm_good) ∧ M.1.cls ≠ "java/lang/invoke/MethodHandle" ∧ M.1.cls ≠ "java/lang/invoke/VarHandle" ∧ (parseMethodDescriptor M.1.desc).map (fun d => d.parameters.length) = some n
def pm_MLS (own : String) (idx : Nat) (M : pm_M) (n : Nat) : Prop := (Jvm.Cond.methodLink own idx M.1 ∈ pm_good ∧ Jvm.Cond.static M.1 ∈ pm_good ∧ Jvm.Cond.initialized M.1.cls ∈ pm_good ∧ Jvm.Cond.code M.1 M.2.1 M.2.2.1 M.2.2.2.1 ∈ pm_good) ∧ M.1.cls ≠ "java/lang/invoke/MethodHandle" ∧ M.1.cls ≠ "java/lang/invoke/VarHandle" ∧ (parseMethodDescriptor M.1.desc).map (fun d => d.parameters.length) = some n
def pm_MLN (own : String) (idx : Nat) (M : pm_M) (host : String) (n : Nat) : Prop := (Jvm.Cond.methodLinkNest own idx M.1 host ∈ pm_nest ∧ Jvm.Cond.static M.1 ∈ pm_good ∧ Jvm.Cond.initialized M.1.cls ∈ pm_good ∧ Jvm.Cond.code M.1 M.2.1 M.2.2.1 M.2.2.2.1 ∈ pm_good) ∧ M.1.cls ≠ "java/lang/invoke/MethodHandle" ∧ M.1.cls ≠ "java/lang/invoke/VarHandle" ∧ (parseMethodDescriptor M.1.desc).map (fun d => d.parameters.length) = some n
theorem pm_gw {w : Jvm.Cond} (h : w ∈ pm_good) : (w.onTables && w.keeps) = true ∨ ∃ ty, w = .arrayClass ty := good_of_word (List.mem_filter.mp h).2
theorem pm_goodIn {M M' : pm_M} (h : Jvm.Cond.code M'.1 M'.2.1 M'.2.2.1 M'.2.2.2.1 ∈ pm_good) : GoodIn (pm_ws M) (pm_ws M') := by
  intro w hw
  rcases List.mem_cons.mp hw with rfl | hw
  · exact ⟨List.mem_cons_of_mem _ h, pm_gw h⟩
  · exact ⟨List.mem_cons_of_mem _ hw, pm_gw hw⟩
theorem pm_tl (G : pm_G) (r : Option Value) (st : List Value) : (r.map (pm_v G)).toList ++ st.map (pm_v G) = (r.toList ++ st).map (pm_v G) := by cases r <;> rfl
theorem pm_sumc (G : pm_G) (st : List Value) : ((st.map (pm_v G)).map fun v => v.category).sum = (st.map fun v => v.category).sum := by
  rw [List.map_map]
  congr 2
  funext v
  exact pm_v_cat G v

theorem pm_callV {L : pm_L} {M : pm_M} {pc : Nat} {lv : List (Option Value)} {st : List Value} {w : pm_W} {Q : Option Value → pm_W → Prop} {idx : Nat} {M' : pm_M} {as : List Value} {Q' : Option Value → pm_W → Prop} {ci k n : Nat} (hk : L.1 k = (ci, n)) (hc : ci < 6) (hcls : M'.1.cls = pm_R0 ci) (hl0 : pm_MLV M.1.cls idx M' as.length) (hrm : M'.2.2.2.2.1 + 1 ≤ M.2.2.2.2.1 ∧ 8 + (M'.2.2.1 + 11) + M'.2.2.2.2.2 ≤ M.2.2.2.2.2) (hsm : (st.map fun v => v.category).sum ≤ 8) (hd : decode M.2.1 pc = .ok (.invokevirtual idx, 3)) (hC : pm_C L M' (.ref k :: as) w Q') (kk : ∀ r w', Q' r w' → pm_R L M (pc + 3) lv (r.toList ++ st) w' Q) : pm_R L M pc lv (as.reverse ++ .ref k :: st) w Q := by
  intro p l e s m args below meth c D G X H locs ls hP hS hl
  obtain ⟨hx, hb, hml, hown, hr, hlocks, hts, ho, hK, hSt, hNw⟩ := id X
  have hm : k ∈ pm_ks L := pm_there ho (by rw [hk]; simp only; omega)
  obtain ⟨q0, hq0⟩ := pm_cells_at (G := G) w hm
  rw [pm_cell_o hc hk] at hq0
  obtain ⟨⟨m1, m2, m3, m4, m5⟩, n1, n2, n3⟩ := hl0
  have hgi : GoodIn (pm_ws M) (wsV M.1.cls idx M'.1.cls M'.1 (pm_ws M')) := by
    intro w hw
    rcases List.mem_append.mp hw with hw | hw
    · simp only [List.mem_cons, List.not_mem_nil, or_false] at hw
      rcases hw with rfl | rfl | rfl | rfl
      · exact ⟨List.mem_cons_of_mem _ m1, pm_gw m1⟩
      · exact ⟨List.mem_cons_of_mem _ m2, pm_gw m2⟩
      · exact ⟨List.mem_cons_of_mem _ m3, pm_gw m3⟩
      · exact ⟨List.mem_cons_of_mem _ m4, pm_gw m4⟩
    · exact pm_goodIn m5 w hw
  have hrv := va_recv hK hP (pm_cl_at hc) hq0
  have hrun := va_runV (e := e) (below := below) (meth := meth) (locs := locs) (cells := 0) (slots := 0) (g := F0 m pc ls ((as.reverse ++ .ref k :: st).map (pm_v G))) (rest := st.map (pm_v G)) (As := as.map (pm_v G)) (b := G.1 k) (R := pm_rm M) (H := H) ⟨hx, hb, hml, hown, hts⟩ (hC l D G ho) (cwV as.length hts hgi rfl rfl rfl ⟨rfl, n1, n2, n3⟩ hrm) ⟨pm_blind, by rw [hcls]; exact hrv, fun U hU hW => ⟨rfl, by rw [hU]; exact hP, pm_K_moved (locs := locs) hW (by rw [hU]; exact hS) ⟨hK, hSt, hNw⟩⟩⟩ rfl (by simp) hl.1 (by simp [pm_v]) (lv_room (by rw [pm_sumc]; exact hsm)) hd ⟨Nat.le_refl _, Nat.le_refl _⟩
  intro T hT X0
  obtain ⟨v, st₀, t, T', Lc, h0, X', hL, e1, e2, ⟨⟨r, w', hv, hq, hP'⟩, hF⟩, hgo⟩ := hrun T hT X0
  cases hv
  have h1 := kk r w' hq p l e s m args below meth c D G X T'.heap (locs ++ Lc) ls (by rw [e1]; exact hP') ⟨Nat.le_trans hS.1 (by rw [e1, ← h0]; exact hF.1), fun q a1 a2 => by rw [e1, hF.2 q (by rw [h0]; exact Nat.lt_of_lt_of_le a1 hS.1) a2, h0]; exact hS.2.1 q a1 a2, fun q hq => by
    rcases List.mem_append.mp hq with h | h
    · exact hS.2.2 q h
    · exact hL q h⟩ hl
  rw [← pm_tl] at h1
  obtain ⟨t2, a1, b1⟩ := h1 T' rfl X'
  exact ⟨t2, hgo t2 a1, b1⟩

theorem pm_callS {L : pm_L} {M : pm_M} {pc : Nat} {lv : List (Option Value)} {st : List Value} {w : pm_W} {Q : Option Value → pm_W → Prop} {idx : Nat} {M' : pm_M} {as : List Value} {Q' : Option Value → pm_W → Prop} (hl0 : pm_MLS M.1.cls idx M' as.length) (hrm : M'.2.2.2.2.1 + 1 ≤ M.2.2.2.2.1 ∧ 8 + (M'.2.2.1 + 11) + M'.2.2.2.2.2 ≤ M.2.2.2.2.2) (hsm : (st.map fun v => v.category).sum ≤ 8) (hd : decode M.2.1 pc = .ok (.invokestatic idx, 3)) (hC : pm_C L M' as w Q') (kk : ∀ r w', Q' r w' → pm_R L M (pc + 3) lv (r.toList ++ st) w' Q) : pm_R L M pc lv (as.reverse ++ st) w Q := by
  intro p l e s m args below meth c D G X H locs ls hP hS hl
  obtain ⟨hx, hb, hml, hown, hr, hlocks, hts, ho, hK, hSt, hNw⟩ := id X
  obtain ⟨⟨m1, m2, m4, m5⟩, n1, n2, n3⟩ := hl0
  have hgi : GoodIn (pm_ws M) (va_wsS M.1.cls idx M'.1 (pm_ws M')) := by
    intro w hw
    rcases List.mem_append.mp hw with hw | hw
    · simp only [List.mem_cons, List.not_mem_nil, or_false] at hw
      rcases hw with rfl | rfl | rfl
      · exact ⟨List.mem_cons_of_mem _ m1, pm_gw m1⟩
      · exact ⟨List.mem_cons_of_mem _ m2, pm_gw m2⟩
      · exact ⟨List.mem_cons_of_mem _ m4, pm_gw m4⟩
    · exact pm_goodIn m5 w hw
  have hrun := va_runS (e := e) (below := below) (meth := meth) (locs := locs) (cells := 0) (slots := 0) (g := F0 m pc ls ((as.reverse ++ st).map (pm_v G))) (rest := st.map (pm_v G)) (As := as.map (pm_v G)) (R := pm_rm M) (H := H) ⟨hx, hb, hml, hown, hts⟩ (hC l D G ho) (va_cwS as.length hts hgi rfl rfl rfl ⟨n1, n2, n3⟩ hrm) ⟨pm_blind, fun U hU hW => ⟨rfl, by rw [hU]; exact hP, pm_K_moved (locs := locs) hW (by rw [hU]; exact hS) ⟨hK, hSt, hNw⟩⟩⟩ rfl (by simp) hl.1 (by simp) (lv_room (by rw [pm_sumc]; exact hsm)) hd ⟨Nat.le_refl _, Nat.le_refl _⟩
  intro T hT X0
  obtain ⟨v, st₀, t, T', Lc, h0, X', hL, e1, e2, ⟨⟨r, w', hv, hq, hP'⟩, hF⟩, hgo⟩ := hrun T hT X0
  cases hv
  have h1 := kk r w' hq p l e s m args below meth c D G X T'.heap (locs ++ Lc) ls (by rw [e1]; exact hP') ⟨Nat.le_trans hS.1 (by rw [e1, ← h0]; exact hF.1), fun q a1 a2 => by rw [e1, hF.2 q (by rw [h0]; exact Nat.lt_of_lt_of_le a1 hS.1) a2, h0]; exact hS.2.1 q a1 a2, fun q hq => by
    rcases List.mem_append.mp hq with h | h
    · exact hS.2.2 q h
    · exact hL q h⟩ hl
  rw [← pm_tl] at h1
  obtain ⟨t2, a1, b1⟩ := h1 T' rfl X'
  exact ⟨t2, hgo t2 a1, b1⟩

theorem pm_callN {L : pm_L} {M : pm_M} {pc : Nat} {lv : List (Option Value)} {st : List Value} {w : pm_W} {Q : Option Value → pm_W → Prop} {idx : Nat} {M' : pm_M} {as : List Value} {Q' : Option Value → pm_W → Prop} {host : String} (hl0 : pm_MLN M.1.cls idx M' host as.length) (hrm : M'.2.2.2.2.1 + 1 ≤ M.2.2.2.2.1 ∧ 8 + (M'.2.2.1 + 11) + M'.2.2.2.2.2 ≤ M.2.2.2.2.2) (hsm : (st.map fun v => v.category).sum ≤ 8) (hd : decode M.2.1 pc = .ok (.invokestatic idx, 3)) (hC : pm_C L M' as w Q') (kk : ∀ r w', Q' r w' → pm_R L M (pc + 3) lv (r.toList ++ st) w' Q) : pm_R L M pc lv (as.reverse ++ st) w Q := by
  intro p l e s m args below meth c D G X H locs ls hP hS hl
  obtain ⟨hx, hb, hml, hown, hr, hlocks, hts, ho, hK, hSt, hNw⟩ := id X
  obtain ⟨⟨m1, m2, m4, m5⟩, n1, n2, n3⟩ := hl0
  have hrun := va_runSN (e := e) (below := below) (meth := meth) (locs := locs) (cells := 0) (slots := 0) (g := F0 m pc ls ((as.reverse ++ st).map (pm_v G))) (rest := st.map (pm_v G)) (As := as.map (pm_v G)) (R := pm_rm M) (H := H) ⟨hx, hb, hml, hown, hts⟩ (hC l D G ho) ⟨va_cnB as.length hts (pm_goodIn m5) rfl rfl rfl (hNw _ m1) (hts _ (List.mem_cons_of_mem _ m4)) ⟨n1, n2, n3⟩ hrm, hts _ (List.mem_cons_of_mem _ m2), trivial⟩ ⟨pm_blind, fun U hU hW => ⟨rfl, by rw [hU]; exact hP, pm_K_moved (locs := locs) hW (by rw [hU]; exact hS) ⟨hK, hSt, hNw⟩⟩⟩ rfl (by simp) hl.1 (by simp) (lv_room (by rw [pm_sumc]; exact hsm)) hd ⟨Nat.le_refl _, Nat.le_refl _⟩
  intro T hT X0
  obtain ⟨v, st₀, t, T', Lc, h0, X', hL, e1, e2, ⟨⟨r, w', hv, hq, hP'⟩, hF⟩, hgo⟩ := hrun T hT X0
  cases hv
  have h1 := kk r w' hq p l e s m args below meth c D G X T'.heap (locs ++ Lc) ls (by rw [e1]; exact hP') ⟨Nat.le_trans hS.1 (by rw [e1, ← h0]; exact hF.1), fun q a1 a2 => by rw [e1, hF.2 q (by rw [h0]; exact Nat.lt_of_lt_of_le a1 hS.1) a2, h0]; exact hS.2.1 q a1 a2, fun q hq => by
    rcases List.mem_append.mp hq with h | h
    · exact hS.2.2 q h
    · exact hL q h⟩ hl
  rw [← pm_tl] at h1
  obtain ⟨t2, a1, b1⟩ := h1 T' rfl X'
  exact ⟨t2, hgo t2 a1, b1⟩

theorem pm_copy {L : pm_L} {M : pm_M} {pc : Nat} {lv : List (Option Value)} {st : List Value} {w : pm_W} {Q : Option Value → pm_W → Prop} {idx k0 k1 n0 n1 : Nat} {sp dp n : Int32} (hl0 : Jvm.Cond.methodLink M.1.cls idx arraycopyName ∈ pm_good) (hl1 : Jvm.Cond.native arraycopyName ∈ pm_good ∧ Jvm.Cond.static arraycopyName ∈ pm_good ∧ Jvm.Cond.initialized "java/lang/System" ∈ pm_good) (hk0 : L.1 k0 = (10, n0)) (hk : L.1 k1 = (10, n1)) (h1 : ¬ sp < 0) (h2 : ¬ dp < 0) (h3 : ¬ n < 0) (h4 : sp.toNatClampNeg + n.toNatClampNeg ≤ n0) (h5 : dp.toNatClampNeg + n.toNatClampNeg ≤ n1) (hfr : 1 ≤ M.2.2.2.2.1) (hlo : (st.map fun v => v.category).sum + (nativeFrameWords "java/lang/System" "arraycopy" 5 + 11) ≤ M.2.2.2.2.2) (hd : decode M.2.1 pc = .ok (.invokestatic idx, 3)) (h : pm_R L M (pc + 3) lv st (pm_s w k1 (va_cpy (w.1 k0) (w.1 k1) sp.toNatClampNeg dp.toNatClampNeg n.toNatClampNeg)) Q) : pm_R L M pc lv (.int n :: .int dp :: .ref k1 :: .int sp :: .ref k0 :: st) w Q := by
  intro p l e s m args below meth c D G X H locs ls hP hS hl
  obtain ⟨hx, hb, hml, hown, hr, hlocks, hts, ho, hK, hSt, hNw⟩ := id X
  have hm0 : k0 ∈ pm_ks L := pm_there ho (by rw [hk0]; simp)
  have hm : k1 ∈ pm_ks L := pm_there ho (by rw [hk]; simp)
  obtain ⟨q0, hq0⟩ := pm_cells_at (G := G) w hm0
  obtain ⟨q1, hq1⟩ := pm_cells_at (G := G) w hm
  have hq2 := hq1
  rw [pm_cell_i hk0] at hq0
  rw [pm_cell_i hk] at hq1
  refine va_copyi (ty := .int) hx hb (hml.trans hl.1.symm) hown (hts _ (List.mem_cons_of_mem _ hl0)) (hts _ (List.mem_cons_of_mem _ hl1.1)) (hts _ (List.mem_cons_of_mem _ hl1.2.1)) (hts _ (List.mem_cons_of_mem _ hl1.2.2)) hK hP (pm_D ho w) hS q0 q1 0 0 hq0 hq1 rfl rfl rfl h1 h2 h3 h4 h5 (fun _ _ => rfl) hfr (by rw [pm_sumc]; exact hlo) hd (fun H1 locs1 hP1 _ hS1 => ?_)
  refine h p l e s m args below meth c D G X H1 locs1 ls (pm_P_set ho hq2 hm ?_ pm_cell_s hP1) hS1 hl
  rw [pm_cell_i hk]
  simp [pm_s]
end
section
def MJ7_fill_53178 : pm_M := (yJ7_fill_53178, cJ7_fill_53178, 4, none, 0, 0)
def MJ7_fill_d0a16 : pm_M := (yJ7_fill_d0a16, cJ7_fill_d0a16, 5, none, 0, 0)
def MJ9_abs_0f7a4 : pm_M := (yJ9_abs_0f7a4, cJ9_abs_0f7a4, 1, some .int, 0, 0)
def MJ9_floorMod_7cf53 : pm_M := (yJ9_floorMod_7cf53, cJ9_floorMod_7cf53, 3, some .int, 0, 0)
def MJ9_min_7cf53 : pm_M := (yJ9_min_7cf53, cJ9_min_7cf53, 2, some .int, 0, 0)
def MX0_become : pm_M := (yX0_become, cX0_become, 3, none, 0, 0)
def MX0_begin : pm_M := (yX0_begin, cX0_begin, 1, none, 1, 23)
def MX0_copyFrom : pm_M := (yX0_copyFrom, cX0_copyFrom, 2, none, 1, 60)
def MX0_countSaved : pm_M := (yX0_countSaved, cX0_countSaved, 1, none, 1, 21)
def MX0_countWasted : pm_M := (yX0_countWasted, cX0_countWasted, 1, none, 0, 0)
def MX0_hasLeft : pm_M := (yX0_hasLeft, cX0_hasLeft, 2, some .boolean, 1, 21)
def MX0_init : pm_M := (yX0_init, cX0_init, 1, none, 1, 20)
def MX0_isSteady : pm_M := (yX0_isSteady, cX0_isSteady, 1, some .boolean, 0, 0)
def MX0_learn : pm_M := (yX0_learn, cX0_learn, 2, none, 0, 0)
def MX0_spans : pm_M := (yX0_spans, cX0_spans, 2, some .boolean, 0, 0)
def MX1_cheapest : pm_M := (yX1_cheapest, cX1_cheapest, 3, some .int, 0, 0)
def MX1_dropDearer : pm_M := (yX1_dropDearer, cX1_dropDearer, 7, none, 0, 0)
def MX1_init : pm_M := (yX1_init, cX1_init, 1, none, 1, 20)
def MX1_leastStalls : pm_M := (yX1_leastStalls, cX1_leastStalls, 4, some .int, 4, 94)
def MX1_number : pm_M := (yX1_number, cX1_number, 7, some .boolean, 3, 63)
def MX1_passAsk : pm_M := (yX1_passAsk, cX1_passAsk, 24, none, 2, 51)
def MX1_passTick : pm_M := (yX1_passTick, cX1_passTick, 3, none, 2, 51)
def MX1_serveOneOrNone : pm_M := (yX1_serveOneOrNone, cX1_serveOneOrNone, 10, none, 0, 0)
def MX1_serveUpTo : pm_M := (yX1_serveUpTo, cX1_serveUpTo, 3, none, 1, 29)
def MX1_sized : pm_M := (yX1_sized, cX1_sized, 1, some .long, 1, 22)
def MX2_add : pm_M := (yX2_add, cX2_add, 4, none, 0, 0)
def MX2_copyFrom : pm_M := (yX2_copyFrom, cX2_copyFrom, 2, none, 1, 60)
def MX2_empty : pm_M := (yX2_empty, cX2_empty, 1, none, 1, 23)
def MX2_find : pm_M := (yX2_find, cX2_find, 3, some .int, 0, 0)
def MX2_hasPlace : pm_M := (yX2_hasPlace, cX2_hasPlace, 1, some .boolean, 0, 0)
def MX2_init : pm_M := (yX2_init, cX2_init, 2, none, 1, 20)
def MX2_nearest : pm_M := (yX2_nearest, cX2_nearest, 6, some .int, 1, 20)
def MX2_remove : pm_M := (yX2_remove, cX2_remove, 3, none, 0, 0)
def MX3_answer : pm_M := (yX3_answer, cX3_answer, 4, some .int, 5, 117)
def MX3_asked : pm_M := (yX3_asked, cX3_asked, 2, some .int, 2, 42)
def MX3_begin : pm_M := (yX3_begin, cX3_begin, 5, none, 2, 43)
def MX3_copyFrom : pm_M := (yX3_copyFrom, cX3_copyFrom, 3, none, 2, 81)
def MX3_demand : pm_M := (yX3_demand, cX3_demand, 4, none, 1, 22)
def MX3_hit : pm_M := (yX3_hit, cX3_hit, 5, none, 2, 41)
def MX3_init : pm_M := (yX3_init, cX3_init, 2, none, 3, 67)
def MX3_leaver : pm_M := (yX3_leaver, cX3_leaver, 5, some .int, 2, 42)
def MX3_letGo : pm_M := (yX3_letGo, cX3_letGo, 2, none, 1, 22)
def MX3_placeInRow : pm_M := (yX3_placeInRow, cX3_placeInRow, 1, some .int, 1, 22)
def MX3_serve : pm_M := (yX3_serve, cX3_serve, 5, some .int, 3, 66)
def MX3_tick : pm_M := (yX3_tick, cX3_tick, 8, some .int, 4, 90)
def MX3_turnAway : pm_M := (yX3_turnAway, cX3_turnAway, 3, none, 1, 20)
def MX3_wish : pm_M := (yX3_wish, cX3_wish, 4, none, 4, 89)
def MX3_wishBySteps : pm_M := (yX3_wishBySteps, cX3_wishBySteps, 6, none, 3, 64)
def MX3_wishOne : pm_M := (yX3_wishOne, cX3_wishOne, 3, none, 2, 42)
def MX3_wishWhatFollowed : pm_M := (yX3_wishWhatFollowed, cX3_wishWhatFollowed, 6, none, 3, 64)
def MX4_ask : pm_M := (yX4_ask, cX4_ask, 3, some .int, 6, 140)
def MX4_back : pm_M := (yX4_back, cX4_back, 2, some .int, 3, 103)
def MX4_clear : pm_M := (yX4_clear, cX4_clear, 5, some .int, 3, 67)
def MX4_digest : pm_M := (yX4_digest, cX4_digest, 3, some .int, 2, 45)
def MX4_follows : pm_M := (yX4_follows, cX4_follows, 3, some .int, 2, 42)
def MX4_foresight : pm_M := (yX4_foresight, cX4_foresight, 2, some .int, 5, 117)
def MX4_hint : pm_M := (yX4_hint, cX4_hint, 5, some .int, 2, 42)
def MX4_house : pm_M := (yX4_house, cX4_house, 2, some .int, 0, 0)
def MX4_idle : pm_M := (yX4_idle, cX4_idle, 4, some .int, 5, 117)
def MX4_init : pm_M := (yX4_init, cX4_init, 2, none, 4, 88)
def MX4_isAsker : pm_M := (yX4_isAsker, cX4_isAsker, 1, some .boolean, 1, 22)
def MX4_isBlock : pm_M := (yX4_isBlock, cX4_isBlock, 1, some .boolean, 1, 22)
def MX4_isShelf : pm_M := (yX4_isShelf, cX4_isShelf, 1, some .boolean, 1, 22)
def MX4_keep : pm_M := (yX4_keep, cX4_keep, 2, some .int, 3, 103)
def MX4_kind : pm_M := (yX4_kind, cX4_kind, 5, some .int, 2, 42)
def MX4_mixed : pm_M := (yX4_mixed, cX4_mixed, 2, some .int, 0, 0)
def MX4_mixedAsker : pm_M := (yX4_mixedAsker, cX4_mixedAsker, 4, some .int, 1, 21)
def MX4_mixedHeld : pm_M := (yX4_mixedHeld, cX4_mixedHeld, 5, some .int, 1, 21)
def MX4_reach : pm_M := (yX4_reach, cX4_reach, 2, some .int, 2, 42)
def MX4_room : pm_M := (yX4_room, cX4_room, 4, some .int, 2, 42)
def MX4_share : pm_M := (yX4_share, cX4_share, 4, some .int, 2, 45)
def MX4_told : pm_M := (yX4_told, cX4_told, 3, some .int, 2, 45)
def MX4_toldOfAll : pm_M := (yX4_toldOfAll, cX4_toldOfAll, 4, some .int, 1, 22)
def MX4_toldOfOne : pm_M := (yX4_toldOfOne, cX4_toldOfOne, 3, some .int, 0, 0)
def MX4_waiting : pm_M := (yX4_waiting, cX4_waiting, 4, some .int, 1, 22)
def MX4_within : pm_M := (yX4_within, cX4_within, 3, some .boolean, 0, 0)
def MX5_addSets : pm_M := (yX5_addSets, cX5_addSets, 4, none, 1, 22)
def MX5_ask : pm_M := (yX5_ask, cX5_ask, 7, some .int, 5, 120)
def MX5_askFor : pm_M := (yX5_askFor, cX5_askFor, 6, none, 0, 0)
def MX5_back : pm_M := (yX5_back, cX5_back, 3, some .int, 1, 25)
def MX5_begin : pm_M := (yX5_begin, cX5_begin, 5, none, 0, 0)
def MX5_clear : pm_M := (yX5_clear, cX5_clear, 5, some .int, 1, 25)
def MX5_digest : pm_M := (yX5_digest, cX5_digest, 4, some .int, 1, 22)
def MX5_digested : pm_M := (yX5_digested, cX5_digested, 3, some .int, 0, 0)
def MX5_drop : pm_M := (yX5_drop, cX5_drop, 3, none, 0, 0)
def MX5_findSets : pm_M := (yX5_findSets, cX5_findSets, 6, none, 2, 45)
def MX5_follows : pm_M := (yX5_follows, cX5_follows, 3, some .int, 2, 45)
def MX5_foresight : pm_M := (yX5_foresight, cX5_foresight, 10, some .int, 3, 70)
def MX5_hint : pm_M := (yX5_hint, cX5_hint, 4, some .int, 2, 45)
def MX5_hit : pm_M := (yX5_hit, cX5_hit, 5, none, 1, 22)
def MX5_house : pm_M := (yX5_house, cX5_house, 2, some .int, 0, 0)
def MX5_idle : pm_M := (yX5_idle, cX5_idle, 3, some .int, 5, 120)
def MX5_in : pm_M := (yX5_in, cX5_in, 6, some .boolean, 0, 0)
def MX5_indexOf : pm_M := (yX5_indexOf, cX5_indexOf, 3, some .int, 0, 0)
def MX5_init : pm_M := (yX5_init, cX5_init, 2, none, 1, 24)
def MX5_isAsker : pm_M := (yX5_isAsker, cX5_isAsker, 1, some .boolean, 1, 25)
def MX5_isBlock : pm_M := (yX5_isBlock, cX5_isBlock, 1, some .boolean, 1, 25)
def MX5_isLeft : pm_M := (yX5_isLeft, cX5_isLeft, 5, some .boolean, 1, 25)
def MX5_keep : pm_M := (yX5_keep, cX5_keep, 3, some .int, 1, 25)
def MX5_kind : pm_M := (yX5_kind, cX5_kind, 5, some .int, 2, 45)
def MX5_lay : pm_M := (yX5_lay, cX5_lay, 2, none, 0, 0)
def MX5_makesRoom : pm_M := (yX5_makesRoom, cX5_makesRoom, 5, some .boolean, 2, 49)
def MX5_nearest : pm_M := (yX5_nearest, cX5_nearest, 5, some .int, 0, 0)
def MX5_owned : pm_M := (yX5_owned, cX5_owned, 4, some .int, 0, 0)
def MX5_placeOf : pm_M := (yX5_placeOf, cX5_placeOf, 4, some .int, 0, 0)
def MX5_reach : pm_M := (yX5_reach, cX5_reach, 2, some .int, 2, 45)
def MX5_reachOf : pm_M := (yX5_reachOf, cX5_reachOf, 2, some .int, 0, 0)
def MX5_room : pm_M := (yX5_room, cX5_room, 3, some .int, 2, 49)
def MX5_serve : pm_M := (yX5_serve, cX5_serve, 4, none, 3, 73)
def MX5_share : pm_M := (yX5_share, cX5_share, 5, some .int, 2, 45)
def MX5_sizeOf : pm_M := (yX5_sizeOf, cX5_sizeOf, 3, some .int, 0, 0)
def MX5_sum : pm_M := (yX5_sum, cX5_sum, 4, some .int, 0, 0)
def MX5_take : pm_M := (yX5_take, cX5_take, 1, some .int, 0, 0)
def MX5_tick : pm_M := (yX5_tick, cX5_tick, 5, none, 4, 96)
def MX5_told : pm_M := (yX5_told, cX5_told, 5, some .int, 2, 45)
def MX5_toldOf : pm_M := (yX5_toldOf, cX5_toldOf, 3, some .int, 1, 23)
def MX5_unwait : pm_M := (yX5_unwait, cX5_unwait, 3, none, 0, 0)
def MX5_waitOf : pm_M := (yX5_waitOf, cX5_waitOf, 4, some .int, 0, 0)
def MX5_waiting : pm_M := (yX5_waiting, cX5_waiting, 3, some .int, 1, 25)
def MX5_waitsOf : pm_M := (yX5_waitsOf, cX5_waitsOf, 4, some .int, 0, 0)
def MX5_waste : pm_M := (yX5_waste, cX5_waste, 2, none, 0, 0)
def MX5_wish : pm_M := (yX5_wish, cX5_wish, 3, none, 2, 45)
def MX5_wishAll : pm_M := (yX5_wishAll, cX5_wishAll, 8, none, 3, 67)
theorem fl_RX2_19 : pm_FL RX2 19 2 0 := pm_in 75 (by decide +kernel) rfl
theorem fl_RX3_105 : pm_FL RX3 105 2 0 := pm_in 76 (by decide +kernel) rfl
theorem fl_RX4_101 : pm_FL RX4 101 2 0 := pm_in 77 (by decide +kernel) rfl
theorem fl_RX2_22 : pm_FL RX2 22 2 1 := pm_in 78 (by decide +kernel) rfl
theorem fl_RX3_108 : pm_FL RX3 108 2 1 := pm_in 79 (by decide +kernel) rfl
theorem fl_RX4_105 : pm_FL RX4 105 2 1 := pm_in 80 (by decide +kernel) rfl
theorem fl_RX2_25 : pm_FL RX2 25 2 2 := pm_in 81 (by decide +kernel) rfl
theorem fl_RX3_111 : pm_FL RX3 111 2 2 := pm_in 82 (by decide +kernel) rfl
theorem fl_RX4_108 : pm_FL RX4 108 2 2 := pm_in 83 (by decide +kernel) rfl
theorem fl_RX2_9 : pm_FL RX2 9 2 3 := pm_in 84 (by decide +kernel) rfl
theorem fl_RX3_147 : pm_FL RX3 147 2 3 := pm_in 85 (by decide +kernel) rfl
theorem fl_RX4_165 : pm_FL RX4 165 2 3 := pm_in 86 (by decide +kernel) rfl
theorem fl_RX2_15 : pm_FL RX2 15 2 4 := pm_in 87 (by decide +kernel) rfl
theorem fl_RX3_135 : pm_FL RX3 135 2 4 := pm_in 88 (by decide +kernel) rfl
theorem fl_RX4_96 : pm_FL RX4 96 2 4 := pm_in 89 (by decide +kernel) rfl
theorem fl_RX0_9 : pm_FL RX0 9 0 0 := pm_in 109 (by decide +kernel) rfl
theorem fl_RX3_82 : pm_FL RX3 82 0 0 := pm_in 110 (by decide +kernel) rfl
theorem fl_RX4_162 : pm_FL RX4 162 0 0 := pm_in 111 (by decide +kernel) rfl
theorem fl_RX0_15 : pm_FL RX0 15 0 1 := pm_in 112 (by decide +kernel) rfl
theorem fl_RX4_117 : pm_FL RX4 117 0 1 := pm_in 113 (by decide +kernel) rfl
theorem fl_RX3_192 : pm_FL RX3 192 0 1 := pm_in 114 (by decide +kernel) rfl
theorem fl_RX0_47 : pm_FL RX0 47 0 2 := pm_in 115 (by decide +kernel) rfl
theorem fl_RX4_63 : pm_FL RX4 63 0 2 := pm_in 116 (by decide +kernel) rfl
theorem fl_RX3_160 : pm_FL RX3 160 0 2 := pm_in 117 (by decide +kernel) rfl
theorem fl_RX0_50 : pm_FL RX0 50 0 3 := pm_in 118 (by decide +kernel) rfl
theorem fl_RX4_89 : pm_FL RX4 89 0 3 := pm_in 119 (by decide +kernel) rfl
theorem fl_RX3_163 : pm_FL RX3 163 0 3 := pm_in 120 (by decide +kernel) rfl
theorem fl_RX0_28 : pm_FL RX0 28 0 4 := pm_in 121 (by decide +kernel) rfl
theorem fl_RX4_51 : pm_FL RX4 51 0 4 := pm_in 122 (by decide +kernel) rfl
theorem fl_RX3_150 : pm_FL RX3 150 0 4 := pm_in 123 (by decide +kernel) rfl
theorem fl_RX0_53 : pm_FL RX0 53 0 5 := pm_in 124 (by decide +kernel) rfl
theorem fl_RX4_73 : pm_FL RX4 73 0 5 := pm_in 125 (by decide +kernel) rfl
theorem fl_RX0_56 : pm_FL RX0 56 0 6 := pm_in 126 (by decide +kernel) rfl
theorem fl_RX4_76 : pm_FL RX4 76 0 6 := pm_in 127 (by decide +kernel) rfl
theorem fl_RX3_183 : pm_FL RX3 183 0 6 := pm_in 128 (by decide +kernel) rfl
theorem fl_RX0_32 : pm_FL RX0 32 0 7 := pm_in 129 (by decide +kernel) rfl
theorem fl_RX0_35 : pm_FL RX0 35 0 8 := pm_in 130 (by decide +kernel) rfl
theorem fl_RX3_174 : pm_FL RX3 174 0 8 := pm_in 131 (by decide +kernel) rfl
theorem fl_RX0_38 : pm_FL RX0 38 0 9 := pm_in 132 (by decide +kernel) rfl
theorem ml_RX3_34 : pm_MLV RX3 34 MX3_begin 3 := ⟨⟨pm_in 154 (by decide +kernel) rfl, pm_in 155 (by decide +kernel) rfl, pm_in 156 (by decide +kernel) rfl, pm_in 47 (by decide +kernel) rfl, pm_in 157 (by decide +kernel) rfl⟩, by decide +kernel, by decide +kernel, by decide +kernel⟩
theorem ml_RX3_38 : pm_MLV RX3 38 MX2_empty 0 := ⟨⟨pm_in 158 (by decide +kernel) rfl, pm_in 159 (by decide +kernel) rfl, pm_in 160 (by decide +kernel) rfl, pm_in 48 (by decide +kernel) rfl, pm_in 161 (by decide +kernel) rfl⟩, by decide +kernel, by decide +kernel, by decide +kernel⟩
theorem ml_RX2_28 : pm_MLS RX2 28 MJ7_fill_53178 2 := ⟨⟨pm_in 162 (by decide +kernel) rfl, pm_in 163 (by decide +kernel) rfl, pm_in 50 (by decide +kernel) rfl, pm_in 164 (by decide +kernel) rfl⟩, by decide +kernel, by decide +kernel, by decide +kernel⟩
theorem ml_RX3_41 : pm_MLV RX3 41 MX0_begin 0 := ⟨⟨pm_in 165 (by decide +kernel) rfl, pm_in 166 (by decide +kernel) rfl, pm_in 167 (by decide +kernel) rfl, pm_in 49 (by decide +kernel) rfl, pm_in 168 (by decide +kernel) rfl⟩, by decide +kernel, by decide +kernel, by decide +kernel⟩
theorem ml_RX0_18 : pm_MLS RX0 18 MJ7_fill_53178 2 := ⟨⟨pm_in 169 (by decide +kernel) rfl, pm_in 163 (by decide +kernel) rfl, pm_in 50 (by decide +kernel) rfl, pm_in 164 (by decide +kernel) rfl⟩, by decide +kernel, by decide +kernel, by decide +kernel⟩
theorem ml_RX0_24 : pm_MLV RX0 24 MX0_become 2 := ⟨⟨pm_in 170 (by decide +kernel) rfl, pm_in 171 (by decide +kernel) rfl, pm_in 172 (by decide +kernel) rfl, pm_in 49 (by decide +kernel) rfl, pm_in 173 (by decide +kernel) rfl⟩, by decide +kernel, by decide +kernel, by decide +kernel⟩
theorem fl_RX3_14 : pm_FL RX3 14 3 0 := pm_in 174 (by decide +kernel) rfl
theorem fl_RX4_92 : pm_FL RX4 92 3 0 := pm_in 175 (by decide +kernel) rfl
theorem fl_RX3_20 : pm_FL RX3 20 3 1 := pm_in 176 (by decide +kernel) rfl
theorem fl_RX4_114 : pm_FL RX4 114 3 1 := pm_in 177 (by decide +kernel) rfl
theorem fl_RX3_25 : pm_FL RX3 25 3 2 := pm_in 178 (by decide +kernel) rfl
theorem fl_RX4_47 : pm_FL RX4 47 3 2 := pm_in 179 (by decide +kernel) rfl
theorem fl_RX3_29 : pm_FL RX3 29 3 3 := pm_in 180 (by decide +kernel) rfl
theorem fl_RX1_36 : pm_FL RX1 36 3 4 := pm_in 181 (by decide +kernel) rfl
theorem fl_RX3_43 : pm_FL RX3 43 3 4 := pm_in 182 (by decide +kernel) rfl
theorem fl_RX4_60 : pm_FL RX4 60 3 4 := pm_in 183 (by decide +kernel) rfl
theorem fl_RX1_29 : pm_FL RX1 29 3 5 := pm_in 184 (by decide +kernel) rfl
theorem fl_RX3_47 : pm_FL RX3 47 3 5 := pm_in 185 (by decide +kernel) rfl
theorem fl_RX4_126 : pm_FL RX4 126 3 5 := pm_in 186 (by decide +kernel) rfl
theorem fl_RX3_50 : pm_FL RX3 50 3 6 := pm_in 187 (by decide +kernel) rfl
theorem fl_RX1_63 : pm_FL RX1 63 3 6 := pm_in 188 (by decide +kernel) rfl
theorem fl_RX4_132 : pm_FL RX4 132 3 6 := pm_in 189 (by decide +kernel) rfl
theorem fl_RX3_53 : pm_FL RX3 53 3 7 := pm_in 190 (by decide +kernel) rfl
theorem fl_RX4_120 : pm_FL RX4 120 3 7 := pm_in 191 (by decide +kernel) rfl
theorem fl_RX3_56 : pm_FL RX3 56 3 8 := pm_in 192 (by decide +kernel) rfl
theorem fl_RX4_129 : pm_FL RX4 129 3 8 := pm_in 193 (by decide +kernel) rfl
theorem fl_RX3_59 : pm_FL RX3 59 3 9 := pm_in 194 (by decide +kernel) rfl
theorem fl_RX4_123 : pm_FL RX4 123 3 9 := pm_in 195 (by decide +kernel) rfl
theorem fl_RX4_35 : pm_FL RX4 35 3 10 := pm_in 196 (by decide +kernel) rfl
theorem fl_RX3_62 : pm_FL RX3 62 3 10 := pm_in 197 (by decide +kernel) rfl
theorem fl_RX1_60 : pm_FL RX1 60 3 10 := pm_in 198 (by decide +kernel) rfl
theorem fl_RX1_11 : pm_FL RX1 11 1 0 := pm_in 229 (by decide +kernel) rfl
theorem fl_RX1_15 : pm_FL RX1 15 1 1 := pm_in 230 (by decide +kernel) rfl
theorem fl_RX1_18 : pm_FL RX1 18 1 2 := pm_in 231 (by decide +kernel) rfl
theorem fl_RX1_22 : pm_FL RX1 22 1 3 := pm_in 232 (by decide +kernel) rfl
theorem fl_RX1_92 : pm_FL RX1 92 1 4 := pm_in 233 (by decide +kernel) rfl
theorem fl_RX1_95 : pm_FL RX1 95 1 5 := pm_in 234 (by decide +kernel) rfl
theorem fl_RX1_43 : pm_FL RX1 43 1 6 := pm_in 235 (by decide +kernel) rfl
theorem fl_RX1_47 : pm_FL RX1 47 1 7 := pm_in 236 (by decide +kernel) rfl
theorem fl_RX1_35 : pm_FL RX1 35 1 8 := pm_in 237 (by decide +kernel) rfl
theorem fl_RX4_10 : pm_FL RX4 10 4 0 := pm_in 259 (by decide +kernel) rfl
theorem fl_RX4_16 : pm_FL RX4 16 4 1 := pm_in 260 (by decide +kernel) rfl
theorem fl_RX4_20 : pm_FL RX4 20 4 2 := pm_in 261 (by decide +kernel) rfl
theorem fl_RX4_27 : pm_FL RX4 27 4 3 := pm_in 262 (by decide +kernel) rfl
theorem ml_RL_13 : pm_MLV RL 13 MX4_clear 3 := ⟨⟨pm_in 272 (by decide +kernel) rfl, pm_in 273 (by decide +kernel) rfl, pm_in 274 (by decide +kernel) rfl, pm_in 46 (by decide +kernel) rfl, pm_in 275 (by decide +kernel) rfl⟩, by decide +kernel, by decide +kernel, by decide +kernel⟩
theorem ml_RX4_31 : pm_MLS RX4 31 MX4_within 3 := ⟨⟨pm_in 276 (by decide +kernel) rfl, pm_in 277 (by decide +kernel) rfl, pm_in 46 (by decide +kernel) rfl, pm_in 278 (by decide +kernel) rfl⟩, by decide +kernel, by decide +kernel, by decide +kernel⟩
theorem ml_RX4_39 : pm_MLV RX4 39 MX3_begin 3 := ⟨⟨pm_in 279 (by decide +kernel) rfl, pm_in 155 (by decide +kernel) rfl, pm_in 156 (by decide +kernel) rfl, pm_in 47 (by decide +kernel) rfl, pm_in 157 (by decide +kernel) rfl⟩, by decide +kernel, by decide +kernel, by decide +kernel⟩
theorem ml_RL_18 : pm_MLV RL 18 MX4_share 2 := ⟨⟨pm_in 280 (by decide +kernel) rfl, pm_in 281 (by decide +kernel) rfl, pm_in 282 (by decide +kernel) rfl, pm_in 46 (by decide +kernel) rfl, pm_in 283 (by decide +kernel) rfl⟩, by decide +kernel, by decide +kernel, by decide +kernel⟩
theorem ml_RX4_43 : pm_MLS RX4 43 MX4_isAsker 1 := ⟨⟨pm_in 284 (by decide +kernel) rfl, pm_in 285 (by decide +kernel) rfl, pm_in 46 (by decide +kernel) rfl, pm_in 286 (by decide +kernel) rfl⟩, by decide +kernel, by decide +kernel, by decide +kernel⟩
theorem ml_RX4_56 : pm_MLV RX4 56 MX4_toldOfAll 1 := ⟨⟨pm_in 287 (by decide +kernel) rfl, pm_in 289 (by decide +kernel) rfl, pm_in 0 (by decide +kernel) rfl, pm_in 46 (by decide +kernel) rfl, pm_in 290 (by decide +kernel) rfl⟩, by decide +kernel, by decide +kernel, by decide +kernel⟩
theorem ml_RX4_86 : pm_MLV RX4 86 MX4_toldOfOne 2 := ⟨⟨pm_in 291 (by decide +kernel) rfl, pm_in 293 (by decide +kernel) rfl, pm_in 1 (by decide +kernel) rfl, pm_in 46 (by decide +kernel) rfl, pm_in 294 (by decide +kernel) rfl⟩, by decide +kernel, by decide +kernel, by decide +kernel⟩
theorem ml_RL_23 : pm_MLV RL 23 MX4_kind 3 := ⟨⟨pm_in 295 (by decide +kernel) rfl, pm_in 296 (by decide +kernel) rfl, pm_in 297 (by decide +kernel) rfl, pm_in 46 (by decide +kernel) rfl, pm_in 298 (by decide +kernel) rfl⟩, by decide +kernel, by decide +kernel, by decide +kernel⟩
theorem ml_RX4_66 : pm_MLV RX4 66 MX0_become 2 := ⟨⟨pm_in 299 (by decide +kernel) rfl, pm_in 171 (by decide +kernel) rfl, pm_in 172 (by decide +kernel) rfl, pm_in 49 (by decide +kernel) rfl, pm_in 173 (by decide +kernel) rfl⟩, by decide +kernel, by decide +kernel, by decide +kernel⟩
theorem ml_RL_27 : pm_MLV RL 27 MX4_hint 3 := ⟨⟨pm_in 300 (by decide +kernel) rfl, pm_in 301 (by decide +kernel) rfl, pm_in 302 (by decide +kernel) rfl, pm_in 46 (by decide +kernel) rfl, pm_in 303 (by decide +kernel) rfl⟩, by decide +kernel, by decide +kernel, by decide +kernel⟩
theorem ml_RX4_70 : pm_MLS RX4 70 MX4_isBlock 1 := ⟨⟨pm_in 304 (by decide +kernel) rfl, pm_in 305 (by decide +kernel) rfl, pm_in 46 (by decide +kernel) rfl, pm_in 306 (by decide +kernel) rfl⟩, by decide +kernel, by decide +kernel, by decide +kernel⟩
theorem ml_RL_31 : pm_MLV RL 31 MX4_ask 2 := ⟨⟨pm_in 307 (by decide +kernel) rfl, pm_in 308 (by decide +kernel) rfl, pm_in 309 (by decide +kernel) rfl, pm_in 46 (by decide +kernel) rfl, pm_in 310 (by decide +kernel) rfl⟩, by decide +kernel, by decide +kernel, by decide +kernel⟩
theorem ml_RX4_79 : pm_MLV RX4 79 MX3_answer 2 := ⟨⟨pm_in 311 (by decide +kernel) rfl, pm_in 312 (by decide +kernel) rfl, pm_in 313 (by decide +kernel) rfl, pm_in 47 (by decide +kernel) rfl, pm_in 314 (by decide +kernel) rfl⟩, by decide +kernel, by decide +kernel, by decide +kernel⟩
theorem ml_RX3_78 : pm_MLS RX3 78 MX3_placeInRow 1 := ⟨⟨pm_in 315 (by decide +kernel) rfl, pm_in 316 (by decide +kernel) rfl, pm_in 47 (by decide +kernel) rfl, pm_in 317 (by decide +kernel) rfl⟩, by decide +kernel, by decide +kernel, by decide +kernel⟩
theorem ml_RX3_201 : pm_MLS RX3 201 MJ9_floorMod_7cf53 2 := ⟨⟨pm_in 318 (by decide +kernel) rfl, pm_in 319 (by decide +kernel) rfl, pm_in 53 (by decide +kernel) rfl, pm_in 320 (by decide +kernel) rfl⟩, by decide +kernel, by decide +kernel, by decide +kernel⟩
theorem ml_RX3_85 : pm_MLV RX3 85 MX2_find 1 := ⟨⟨pm_in 321 (by decide +kernel) rfl, pm_in 322 (by decide +kernel) rfl, pm_in 323 (by decide +kernel) rfl, pm_in 48 (by decide +kernel) rfl, pm_in 324 (by decide +kernel) rfl⟩, by decide +kernel, by decide +kernel, by decide +kernel⟩
theorem ml_RX3_88 : pm_MLV RX3 88 MX3_demand 2 := ⟨⟨pm_in 325 (by decide +kernel) rfl, pm_in 327 (by decide +kernel) rfl, pm_in 2 (by decide +kernel) rfl, pm_in 47 (by decide +kernel) rfl, pm_in 328 (by decide +kernel) rfl⟩, by decide +kernel, by decide +kernel, by decide +kernel⟩
theorem ml_RX3_117 : pm_MLV RX3 117 MX2_remove 1 := ⟨⟨pm_in 329 (by decide +kernel) rfl, pm_in 330 (by decide +kernel) rfl, pm_in 331 (by decide +kernel) rfl, pm_in 48 (by decide +kernel) rfl, pm_in 332 (by decide +kernel) rfl⟩, by decide +kernel, by decide +kernel, by decide +kernel⟩
theorem ml_RX3_92 : pm_MLV RX3 92 MX3_tick 2 := ⟨⟨pm_in 333 (by decide +kernel) rfl, pm_in 334 (by decide +kernel) rfl, pm_in 335 (by decide +kernel) rfl, pm_in 47 (by decide +kernel) rfl, pm_in 336 (by decide +kernel) rfl⟩, by decide +kernel, by decide +kernel, by decide +kernel⟩
theorem ml_RX3_123 : pm_MLV RX3 123 MX3_serve 3 := ⟨⟨pm_in 337 (by decide +kernel) rfl, pm_in 339 (by decide +kernel) rfl, pm_in 3 (by decide +kernel) rfl, pm_in 47 (by decide +kernel) rfl, pm_in 340 (by decide +kernel) rfl⟩, by decide +kernel, by decide +kernel, by decide +kernel⟩
theorem ml_RX3_130 : pm_MLS RX3 130 MJ9_abs_0f7a4 1 := ⟨⟨pm_in 341 (by decide +kernel) rfl, pm_in 342 (by decide +kernel) rfl, pm_in 53 (by decide +kernel) rfl, pm_in 343 (by decide +kernel) rfl⟩, by decide +kernel, by decide +kernel, by decide +kernel⟩
theorem ml_RX3_138 : pm_MLV RX3 138 MX3_leaver 1 := ⟨⟨pm_in 344 (by decide +kernel) rfl, pm_in 346 (by decide +kernel) rfl, pm_in 4 (by decide +kernel) rfl, pm_in 47 (by decide +kernel) rfl, pm_in 347 (by decide +kernel) rfl⟩, by decide +kernel, by decide +kernel, by decide +kernel⟩
theorem ml_RX3_153 : pm_MLV RX3 153 MX0_hasLeft 1 := ⟨⟨pm_in 348 (by decide +kernel) rfl, pm_in 349 (by decide +kernel) rfl, pm_in 350 (by decide +kernel) rfl, pm_in 49 (by decide +kernel) rfl, pm_in 351 (by decide +kernel) rfl⟩, by decide +kernel, by decide +kernel, by decide +kernel⟩
theorem ml_RX0_59 : pm_MLV RX0 59 MX0_spans 1 := ⟨⟨pm_in 352 (by decide +kernel) rfl, pm_in 353 (by decide +kernel) rfl, pm_in 354 (by decide +kernel) rfl, pm_in 49 (by decide +kernel) rfl, pm_in 355 (by decide +kernel) rfl⟩, by decide +kernel, by decide +kernel, by decide +kernel⟩
theorem ml_RX3_141 : pm_MLV RX3 141 MX3_turnAway 2 := ⟨⟨pm_in 356 (by decide +kernel) rfl, pm_in 358 (by decide +kernel) rfl, pm_in 5 (by decide +kernel) rfl, pm_in 47 (by decide +kernel) rfl, pm_in 359 (by decide +kernel) rfl⟩, by decide +kernel, by decide +kernel, by decide +kernel⟩
theorem ml_RX3_157 : pm_MLV RX3 157 MX0_countWasted 0 := ⟨⟨pm_in 360 (by decide +kernel) rfl, pm_in 361 (by decide +kernel) rfl, pm_in 362 (by decide +kernel) rfl, pm_in 49 (by decide +kernel) rfl, pm_in 363 (by decide +kernel) rfl⟩, by decide +kernel, by decide +kernel, by decide +kernel⟩
theorem ml_RX3_144 : pm_MLV RX3 144 MX3_letGo 1 := ⟨⟨pm_in 364 (by decide +kernel) rfl, pm_in 366 (by decide +kernel) rfl, pm_in 6 (by decide +kernel) rfl, pm_in 47 (by decide +kernel) rfl, pm_in 367 (by decide +kernel) rfl⟩, by decide +kernel, by decide +kernel, by decide +kernel⟩
theorem ml_RX3_120 : pm_MLV RX3 120 MX2_add 3 := ⟨⟨pm_in 368 (by decide +kernel) rfl, pm_in 369 (by decide +kernel) rfl, pm_in 370 (by decide +kernel) rfl, pm_in 48 (by decide +kernel) rfl, pm_in 371 (by decide +kernel) rfl⟩, by decide +kernel, by decide +kernel, by decide +kernel⟩
theorem ml_RX3_127 : pm_MLV RX3 127 MX2_nearest 1 := ⟨⟨pm_in 372 (by decide +kernel) rfl, pm_in 373 (by decide +kernel) rfl, pm_in 374 (by decide +kernel) rfl, pm_in 48 (by decide +kernel) rfl, pm_in 375 (by decide +kernel) rfl⟩, by decide +kernel, by decide +kernel, by decide +kernel⟩
theorem ml_RX2_40 : pm_MLS RX2 40 MJ9_abs_0f7a4 1 := ⟨⟨pm_in 376 (by decide +kernel) rfl, pm_in 342 (by decide +kernel) rfl, pm_in 53 (by decide +kernel) rfl, pm_in 343 (by decide +kernel) rfl⟩, by decide +kernel, by decide +kernel, by decide +kernel⟩
theorem ml_RX3_96 : pm_MLV RX3 96 MX3_hit 2 := ⟨⟨pm_in 377 (by decide +kernel) rfl, pm_in 379 (by decide +kernel) rfl, pm_in 7 (by decide +kernel) rfl, pm_in 47 (by decide +kernel) rfl, pm_in 380 (by decide +kernel) rfl⟩, by decide +kernel, by decide +kernel, by decide +kernel⟩
theorem ml_RX3_114 : pm_MLV RX3 114 MX0_countSaved 0 := ⟨⟨pm_in 381 (by decide +kernel) rfl, pm_in 382 (by decide +kernel) rfl, pm_in 383 (by decide +kernel) rfl, pm_in 49 (by decide +kernel) rfl, pm_in 384 (by decide +kernel) rfl⟩, by decide +kernel, by decide +kernel, by decide +kernel⟩
theorem ml_RX0_63 : pm_MLS RX0 63 MJ9_min_7cf53 2 := ⟨⟨pm_in 385 (by decide +kernel) rfl, pm_in 386 (by decide +kernel) rfl, pm_in 53 (by decide +kernel) rfl, pm_in 387 (by decide +kernel) rfl⟩, by decide +kernel, by decide +kernel, by decide +kernel⟩
theorem ml_RX3_99 : pm_MLV RX3 99 MX0_learn 1 := ⟨⟨pm_in 388 (by decide +kernel) rfl, pm_in 389 (by decide +kernel) rfl, pm_in 390 (by decide +kernel) rfl, pm_in 49 (by decide +kernel) rfl, pm_in 391 (by decide +kernel) rfl⟩, by decide +kernel, by decide +kernel, by decide +kernel⟩
theorem ml_RX3_102 : pm_MLV RX3 102 MX3_wish 2 := ⟨⟨pm_in 392 (by decide +kernel) rfl, pm_in 394 (by decide +kernel) rfl, pm_in 8 (by decide +kernel) rfl, pm_in 47 (by decide +kernel) rfl, pm_in 395 (by decide +kernel) rfl⟩, by decide +kernel, by decide +kernel, by decide +kernel⟩
theorem ml_RX3_166 : pm_MLV RX3 166 MX3_wishBySteps 4 := ⟨⟨pm_in 396 (by decide +kernel) rfl, pm_in 398 (by decide +kernel) rfl, pm_in 9 (by decide +kernel) rfl, pm_in 47 (by decide +kernel) rfl, pm_in 399 (by decide +kernel) rfl⟩, by decide +kernel, by decide +kernel, by decide +kernel⟩
theorem ml_RX3_189 : pm_MLV RX3 189 MX3_wishOne 2 := ⟨⟨pm_in 400 (by decide +kernel) rfl, pm_in 402 (by decide +kernel) rfl, pm_in 10 (by decide +kernel) rfl, pm_in 47 (by decide +kernel) rfl, pm_in 403 (by decide +kernel) rfl⟩, by decide +kernel, by decide +kernel, by decide +kernel⟩
theorem ml_RX3_195 : pm_MLN RX3 195 MX4_isBlock RX4 1 := ⟨⟨by decide +kernel, pm_in 305 (by decide +kernel) rfl, pm_in 46 (by decide +kernel) rfl, pm_in 306 (by decide +kernel) rfl⟩, by decide +kernel, by decide +kernel, by decide +kernel⟩
theorem ml_RX3_198 : pm_MLV RX3 198 MX2_hasPlace 0 := ⟨⟨pm_in 405 (by decide +kernel) rfl, pm_in 406 (by decide +kernel) rfl, pm_in 407 (by decide +kernel) rfl, pm_in 48 (by decide +kernel) rfl, pm_in 408 (by decide +kernel) rfl⟩, by decide +kernel, by decide +kernel, by decide +kernel⟩
theorem ml_RX3_170 : pm_MLV RX3 170 MX0_isSteady 0 := ⟨⟨pm_in 409 (by decide +kernel) rfl, pm_in 410 (by decide +kernel) rfl, pm_in 411 (by decide +kernel) rfl, pm_in 49 (by decide +kernel) rfl, pm_in 412 (by decide +kernel) rfl⟩, by decide +kernel, by decide +kernel, by decide +kernel⟩
theorem ml_RX3_177 : pm_MLV RX3 177 MX3_wishWhatFollowed 2 := ⟨⟨pm_in 413 (by decide +kernel) rfl, pm_in 415 (by decide +kernel) rfl, pm_in 11 (by decide +kernel) rfl, pm_in 47 (by decide +kernel) rfl, pm_in 416 (by decide +kernel) rfl⟩, by decide +kernel, by decide +kernel, by decide +kernel⟩
theorem ml_RX3_180 : pm_MLV RX3 180 MX0_spans 1 := ⟨⟨pm_in 417 (by decide +kernel) rfl, pm_in 353 (by decide +kernel) rfl, pm_in 354 (by decide +kernel) rfl, pm_in 49 (by decide +kernel) rfl, pm_in 355 (by decide +kernel) rfl⟩, by decide +kernel, by decide +kernel, by decide +kernel⟩
theorem ml_RX3_186 : pm_MLS RX3 186 MJ9_min_7cf53 2 := ⟨⟨pm_in 418 (by decide +kernel) rfl, pm_in 386 (by decide +kernel) rfl, pm_in 53 (by decide +kernel) rfl, pm_in 387 (by decide +kernel) rfl⟩, by decide +kernel, by decide +kernel, by decide +kernel⟩
theorem ml_RL_35 : pm_MLV RL 35 MX4_idle 1 := ⟨⟨pm_in 419 (by decide +kernel) rfl, pm_in 420 (by decide +kernel) rfl, pm_in 421 (by decide +kernel) rfl, pm_in 46 (by decide +kernel) rfl, pm_in 422 (by decide +kernel) rfl⟩, by decide +kernel, by decide +kernel, by decide +kernel⟩
theorem ml_RX4_83 : pm_MLV RX4 83 MX3_tick 2 := ⟨⟨pm_in 423 (by decide +kernel) rfl, pm_in 334 (by decide +kernel) rfl, pm_in 335 (by decide +kernel) rfl, pm_in 47 (by decide +kernel) rfl, pm_in 336 (by decide +kernel) rfl⟩, by decide +kernel, by decide +kernel, by decide +kernel⟩
theorem ml_RL_40 : pm_MLV RL 40 MX4_told 2 := ⟨⟨pm_in 424 (by decide +kernel) rfl, pm_in 425 (by decide +kernel) rfl, pm_in 426 (by decide +kernel) rfl, pm_in 46 (by decide +kernel) rfl, pm_in 427 (by decide +kernel) rfl⟩, by decide +kernel, by decide +kernel, by decide +kernel⟩
theorem ml_RL_44 : pm_MLV RL 44 MX4_reach 1 := ⟨⟨pm_in 428 (by decide +kernel) rfl, pm_in 429 (by decide +kernel) rfl, pm_in 430 (by decide +kernel) rfl, pm_in 46 (by decide +kernel) rfl, pm_in 431 (by decide +kernel) rfl⟩, by decide +kernel, by decide +kernel, by decide +kernel⟩
theorem ml_RL_48 : pm_MLV RL 48 MX4_room 2 := ⟨⟨pm_in 432 (by decide +kernel) rfl, pm_in 433 (by decide +kernel) rfl, pm_in 434 (by decide +kernel) rfl, pm_in 46 (by decide +kernel) rfl, pm_in 435 (by decide +kernel) rfl⟩, by decide +kernel, by decide +kernel, by decide +kernel⟩
theorem ml_RX4_111 : pm_MLV RX4 111 MX0_hasLeft 1 := ⟨⟨pm_in 436 (by decide +kernel) rfl, pm_in 349 (by decide +kernel) rfl, pm_in 350 (by decide +kernel) rfl, pm_in 49 (by decide +kernel) rfl, pm_in 351 (by decide +kernel) rfl⟩, by decide +kernel, by decide +kernel, by decide +kernel⟩
theorem ml_RL_52 : pm_MLV RL 52 MX4_waiting 2 := ⟨⟨pm_in 437 (by decide +kernel) rfl, pm_in 438 (by decide +kernel) rfl, pm_in 439 (by decide +kernel) rfl, pm_in 46 (by decide +kernel) rfl, pm_in 440 (by decide +kernel) rfl⟩, by decide +kernel, by decide +kernel, by decide +kernel⟩
theorem ml_RL_56 : pm_MLV RL 56 MX4_follows 2 := ⟨⟨pm_in 441 (by decide +kernel) rfl, pm_in 442 (by decide +kernel) rfl, pm_in 443 (by decide +kernel) rfl, pm_in 46 (by decide +kernel) rfl, pm_in 444 (by decide +kernel) rfl⟩, by decide +kernel, by decide +kernel, by decide +kernel⟩
theorem ml_RL_60 : pm_MLV RL 60 MX4_house 1 := ⟨⟨pm_in 445 (by decide +kernel) rfl, pm_in 446 (by decide +kernel) rfl, pm_in 447 (by decide +kernel) rfl, pm_in 46 (by decide +kernel) rfl, pm_in 448 (by decide +kernel) rfl⟩, by decide +kernel, by decide +kernel, by decide +kernel⟩
theorem ml_RL_64 : pm_MLV RL 64 MX4_foresight 1 := ⟨⟨pm_in 449 (by decide +kernel) rfl, pm_in 450 (by decide +kernel) rfl, pm_in 451 (by decide +kernel) rfl, pm_in 46 (by decide +kernel) rfl, pm_in 452 (by decide +kernel) rfl⟩, by decide +kernel, by decide +kernel, by decide +kernel⟩
theorem ml_RX4_135 : pm_MLS RX4 135 MJ9_min_7cf53 2 := ⟨⟨pm_in 453 (by decide +kernel) rfl, pm_in 386 (by decide +kernel) rfl, pm_in 53 (by decide +kernel) rfl, pm_in 387 (by decide +kernel) rfl⟩, by decide +kernel, by decide +kernel, by decide +kernel⟩
theorem ml_RX4_140 : pm_MLV RX4 140 MX1_leastStalls 2 := ⟨⟨pm_in 454 (by decide +kernel) rfl, pm_in 455 (by decide +kernel) rfl, pm_in 456 (by decide +kernel) rfl, pm_in 51 (by decide +kernel) rfl, pm_in 457 (by decide +kernel) rfl⟩, by decide +kernel, by decide +kernel, by decide +kernel⟩
theorem ml_RX1_25 : pm_MLV RX1 25 MX1_number 2 := ⟨⟨pm_in 458 (by decide +kernel) rfl, pm_in 460 (by decide +kernel) rfl, pm_in 12 (by decide +kernel) rfl, pm_in 51 (by decide +kernel) rfl, pm_in 461 (by decide +kernel) rfl⟩, by decide +kernel, by decide +kernel, by decide +kernel⟩
theorem ml_RX1_77 : pm_MLV RX1 77 MX3_asked 1 := ⟨⟨pm_in 462 (by decide +kernel) rfl, pm_in 463 (by decide +kernel) rfl, pm_in 464 (by decide +kernel) rfl, pm_in 47 (by decide +kernel) rfl, pm_in 465 (by decide +kernel) rfl⟩, by decide +kernel, by decide +kernel, by decide +kernel⟩
theorem ml_RX1_39 : pm_MLS RX1 39 MX1_sized 1 := ⟨⟨pm_in 466 (by decide +kernel) rfl, pm_in 467 (by decide +kernel) rfl, pm_in 51 (by decide +kernel) rfl, pm_in 468 (by decide +kernel) rfl⟩, by decide +kernel, by decide +kernel, by decide +kernel⟩
theorem ml_RX1_80 : pm_MLN RX1 80 MX4_within RX4 3 := ⟨⟨by decide +kernel, pm_in 277 (by decide +kernel) rfl, pm_in 46 (by decide +kernel) rfl, pm_in 278 (by decide +kernel) rfl⟩, by decide +kernel, by decide +kernel, by decide +kernel⟩
theorem fl_RX1_84 : Jvm.Cond.fieldLink RX1 84 RX1 "SIZED" "[J" ∈ pm_good := pm_in 470 (by decide +kernel) rfl
theorem ml_RX1_50 : pm_MLS RX1 50 MJ7_fill_d0a16 2 := ⟨⟨pm_in 472 (by decide +kernel) rfl, pm_in 473 (by decide +kernel) rfl, pm_in 50 (by decide +kernel) rfl, pm_in 474 (by decide +kernel) rfl⟩, by decide +kernel, by decide +kernel, by decide +kernel⟩
theorem ml_RX1_56 : pm_MLV RX1 56 MX1_passAsk 2 := ⟨⟨pm_in 475 (by decide +kernel) rfl, pm_in 477 (by decide +kernel) rfl, pm_in 13 (by decide +kernel) rfl, pm_in 51 (by decide +kernel) rfl, pm_in 478 (by decide +kernel) rfl⟩, by decide +kernel, by decide +kernel, by decide +kernel⟩
theorem fl_RX1_87 : Jvm.Cond.fieldLink RX1 87 RX1 "HAS" "[J" ∈ pm_good := pm_in 479 (by decide +kernel) rfl
theorem kc_RX1_90 : Jvm.Cond.constantLong RX1 90 (-1) ∈ pm_good := pm_in 481 (by decide +kernel) rfl
theorem ml_RX1_98 : pm_MLV RX1 98 MX1_serveUpTo 1 := ⟨⟨pm_in 482 (by decide +kernel) rfl, pm_in 484 (by decide +kernel) rfl, pm_in 14 (by decide +kernel) rfl, pm_in 51 (by decide +kernel) rfl, pm_in 485 (by decide +kernel) rfl⟩, by decide +kernel, by decide +kernel, by decide +kernel⟩
theorem ml_RX1_101 : pm_MLV RX1 101 MX1_serveOneOrNone 0 := ⟨⟨pm_in 486 (by decide +kernel) rfl, pm_in 488 (by decide +kernel) rfl, pm_in 15 (by decide +kernel) rfl, pm_in 51 (by decide +kernel) rfl, pm_in 489 (by decide +kernel) rfl⟩, by decide +kernel, by decide +kernel, by decide +kernel⟩
theorem ml_RX1_66 : pm_MLV RX1 66 MX1_passTick 1 := ⟨⟨pm_in 490 (by decide +kernel) rfl, pm_in 492 (by decide +kernel) rfl, pm_in 16 (by decide +kernel) rfl, pm_in 51 (by decide +kernel) rfl, pm_in 493 (by decide +kernel) rfl⟩, by decide +kernel, by decide +kernel, by decide +kernel⟩
theorem ml_RX1_70 : pm_MLV RX1 70 MX1_dropDearer 1 := ⟨⟨pm_in 494 (by decide +kernel) rfl, pm_in 496 (by decide +kernel) rfl, pm_in 17 (by decide +kernel) rfl, pm_in 51 (by decide +kernel) rfl, pm_in 497 (by decide +kernel) rfl⟩, by decide +kernel, by decide +kernel, by decide +kernel⟩
theorem ml_RX1_73 : pm_MLV RX1 73 MX1_cheapest 1 := ⟨⟨pm_in 498 (by decide +kernel) rfl, pm_in 500 (by decide +kernel) rfl, pm_in 18 (by decide +kernel) rfl, pm_in 51 (by decide +kernel) rfl, pm_in 501 (by decide +kernel) rfl⟩, by decide +kernel, by decide +kernel, by decide +kernel⟩
theorem ml_RL_68 : pm_MLV RL 68 MX4_keep 1 := ⟨⟨pm_in 502 (by decide +kernel) rfl, pm_in 503 (by decide +kernel) rfl, pm_in 504 (by decide +kernel) rfl, pm_in 46 (by decide +kernel) rfl, pm_in 505 (by decide +kernel) rfl⟩, by decide +kernel, by decide +kernel, by decide +kernel⟩
theorem ml_RX4_144 : pm_MLS RX4 144 MX4_isShelf 1 := ⟨⟨pm_in 506 (by decide +kernel) rfl, pm_in 507 (by decide +kernel) rfl, pm_in 46 (by decide +kernel) rfl, pm_in 508 (by decide +kernel) rfl⟩, by decide +kernel, by decide +kernel, by decide +kernel⟩
theorem ml_RX4_147 : pm_MLV RX4 147 MX3_copyFrom 1 := ⟨⟨pm_in 509 (by decide +kernel) rfl, pm_in 510 (by decide +kernel) rfl, pm_in 511 (by decide +kernel) rfl, pm_in 47 (by decide +kernel) rfl, pm_in 512 (by decide +kernel) rfl⟩, by decide +kernel, by decide +kernel, by decide +kernel⟩
theorem ml_RX3_65 : pm_MLV RX3 65 MX2_copyFrom 1 := ⟨⟨pm_in 513 (by decide +kernel) rfl, pm_in 514 (by decide +kernel) rfl, pm_in 515 (by decide +kernel) rfl, pm_in 48 (by decide +kernel) rfl, pm_in 516 (by decide +kernel) rfl⟩, by decide +kernel, by decide +kernel, by decide +kernel⟩
theorem ml_RX2_34 : Jvm.Cond.methodLink RX2 34 arraycopyName ∈ pm_good := pm_in 517 (by decide +kernel) rfl
theorem ml_RX3_69 : pm_MLV RX3 69 MX0_copyFrom 1 := ⟨⟨pm_in 520 (by decide +kernel) rfl, pm_in 521 (by decide +kernel) rfl, pm_in 522 (by decide +kernel) rfl, pm_in 49 (by decide +kernel) rfl, pm_in 523 (by decide +kernel) rfl⟩, by decide +kernel, by decide +kernel, by decide +kernel⟩
theorem ml_RX0_41 : Jvm.Cond.methodLink RX0 41 arraycopyName ∈ pm_good := pm_in 524 (by decide +kernel) rfl
theorem ml_RX3_72 : Jvm.Cond.methodLink RX3 72 arraycopyName ∈ pm_good := pm_in 525 (by decide +kernel) rfl
theorem ml_RL_72 : pm_MLV RL 72 MX4_back 1 := ⟨⟨pm_in 526 (by decide +kernel) rfl, pm_in 527 (by decide +kernel) rfl, pm_in 528 (by decide +kernel) rfl, pm_in 46 (by decide +kernel) rfl, pm_in 529 (by decide +kernel) rfl⟩, by decide +kernel, by decide +kernel, by decide +kernel⟩
theorem ml_RL_76 : pm_MLV RL 76 MX4_digest 0 := ⟨⟨pm_in 530 (by decide +kernel) rfl, pm_in 531 (by decide +kernel) rfl, pm_in 532 (by decide +kernel) rfl, pm_in 46 (by decide +kernel) rfl, pm_in 533 (by decide +kernel) rfl⟩, by decide +kernel, by decide +kernel, by decide +kernel⟩
theorem ml_RX4_151 : pm_MLS RX4 151 MX4_mixed 2 := ⟨⟨pm_in 534 (by decide +kernel) rfl, pm_in 535 (by decide +kernel) rfl, pm_in 46 (by decide +kernel) rfl, pm_in 536 (by decide +kernel) rfl⟩, by decide +kernel, by decide +kernel, by decide +kernel⟩
theorem ml_RX4_154 : pm_MLS RX4 154 MX4_mixedHeld 3 := ⟨⟨pm_in 537 (by decide +kernel) rfl, pm_in 538 (by decide +kernel) rfl, pm_in 46 (by decide +kernel) rfl, pm_in 539 (by decide +kernel) rfl⟩, by decide +kernel, by decide +kernel, by decide +kernel⟩
theorem ml_RX4_158 : pm_MLS RX4 158 MX4_mixedAsker 2 := ⟨⟨pm_in 540 (by decide +kernel) rfl, pm_in 541 (by decide +kernel) rfl, pm_in 46 (by decide +kernel) rfl, pm_in 542 (by decide +kernel) rfl⟩, by decide +kernel, by decide +kernel, by decide +kernel⟩
theorem ml_RX5_90 : pm_MLV RX5 90 MX5_begin 3 := ⟨⟨pm_in 549 (by decide +kernel) rfl, pm_in 551 (by decide +kernel) rfl, pm_in 19 (by decide +kernel) rfl, pm_in 52 (by decide +kernel) rfl, pm_in 552 (by decide +kernel) rfl⟩, by decide +kernel, by decide +kernel, by decide +kernel⟩
theorem fl_RX5_102 : pm_FL RX5 102 5 0 := pm_in 553 (by decide +kernel) rfl
theorem fl_RX5_105 : pm_FL RX5 105 5 1 := pm_in 554 (by decide +kernel) rfl
theorem fl_RX5_108 : pm_FL RX5 108 5 2 := pm_in 555 (by decide +kernel) rfl
theorem fl_RX5_7 : pm_FL RX5 7 5 3 := pm_in 556 (by decide +kernel) rfl
theorem fl_RX5_13 : pm_FL RX5 13 5 4 := pm_in 557 (by decide +kernel) rfl
theorem fl_RX5_16 : pm_FL RX5 16 5 5 := pm_in 558 (by decide +kernel) rfl
theorem fl_RX5_111 : pm_FL RX5 111 5 6 := pm_in 559 (by decide +kernel) rfl
theorem fl_RX5_20 : pm_FL RX5 20 5 7 := pm_in 560 (by decide +kernel) rfl
theorem fl_RX5_23 : pm_FL RX5 23 5 8 := pm_in 561 (by decide +kernel) rfl
theorem fl_RX5_114 : pm_FL RX5 114 5 9 := pm_in 562 (by decide +kernel) rfl
theorem fl_RX5_117 : pm_FL RX5 117 5 10 := pm_in 563 (by decide +kernel) rfl
theorem fl_RX5_120 : pm_FL RX5 120 5 11 := pm_in 564 (by decide +kernel) rfl
theorem fl_RX5_123 : pm_FL RX5 123 5 12 := pm_in 565 (by decide +kernel) rfl
theorem fl_RX5_26 : pm_FL RX5 26 5 13 := pm_in 566 (by decide +kernel) rfl
theorem fl_RX5_29 : pm_FL RX5 29 5 14 := pm_in 567 (by decide +kernel) rfl
theorem fl_RX5_32 : pm_FL RX5 32 5 15 := pm_in 568 (by decide +kernel) rfl
theorem fl_RX5_35 : pm_FL RX5 35 5 16 := pm_in 569 (by decide +kernel) rfl
theorem fl_RX5_38 : pm_FL RX5 38 5 17 := pm_in 570 (by decide +kernel) rfl
theorem fl_RX5_41 : pm_FL RX5 41 5 18 := pm_in 571 (by decide +kernel) rfl
theorem fl_RX5_44 : pm_FL RX5 44 5 19 := pm_in 572 (by decide +kernel) rfl
theorem fl_RX5_47 : pm_FL RX5 47 5 20 := pm_in 573 (by decide +kernel) rfl
theorem fl_RX5_50 : pm_FL RX5 50 5 21 := pm_in 574 (by decide +kernel) rfl
theorem fl_RX5_53 : pm_FL RX5 53 5 22 := pm_in 575 (by decide +kernel) rfl
theorem fl_RX5_56 : pm_FL RX5 56 5 23 := pm_in 576 (by decide +kernel) rfl
theorem fl_RX5_126 : pm_FL RX5 126 5 24 := pm_in 577 (by decide +kernel) rfl
theorem fl_RX5_59 : pm_FL RX5 59 5 25 := pm_in 578 (by decide +kernel) rfl
theorem fl_RX5_167 : pm_FL RX5 167 5 26 := pm_in 579 (by decide +kernel) rfl
theorem fl_RX5_164 : pm_FL RX5 164 5 27 := pm_in 580 (by decide +kernel) rfl
theorem fl_RX5_63 : pm_FL RX5 63 5 28 := pm_in 581 (by decide +kernel) rfl
theorem fl_RX5_215 : pm_FL RX5 215 5 29 := pm_in 582 (by decide +kernel) rfl
theorem fl_RX5_66 : pm_FL RX5 66 5 30 := pm_in 583 (by decide +kernel) rfl
theorem fl_RX5_69 : pm_FL RX5 69 5 31 := pm_in 584 (by decide +kernel) rfl
theorem fl_RX5_72 : pm_FL RX5 72 5 32 := pm_in 585 (by decide +kernel) rfl
theorem fl_RX5_75 : pm_FL RX5 75 5 33 := pm_in 586 (by decide +kernel) rfl
theorem fl_RX5_78 : pm_FL RX5 78 5 34 := pm_in 587 (by decide +kernel) rfl
theorem fl_RX5_81 : pm_FL RX5 81 5 35 := pm_in 588 (by decide +kernel) rfl
theorem fl_RX5_84 : pm_FL RX5 84 5 36 := pm_in 589 (by decide +kernel) rfl
theorem fl_RX5_87 : pm_FL RX5 87 5 37 := pm_in 590 (by decide +kernel) rfl
theorem fl_RX5_236 : pm_FL RX5 236 5 38 := pm_in 591 (by decide +kernel) rfl
theorem ml_RL_17 : pm_MLV RL 17 MX5_clear 3 := ⟨⟨pm_in 671 (by decide +kernel) rfl, pm_in 672 (by decide +kernel) rfl, pm_in 673 (by decide +kernel) rfl, pm_in 52 (by decide +kernel) rfl, pm_in 674 (by decide +kernel) rfl⟩, by decide +kernel, by decide +kernel, by decide +kernel⟩
theorem kc_RX5_129 : Jvm.Cond.constantLong RX5 129 (12) ∈ pm_good := pm_in 675 (by decide +kernel) rfl
theorem ml_RX5_96 : pm_MLS RX5 96 MX5_in 3 := ⟨⟨pm_in 676 (by decide +kernel) rfl, pm_in 677 (by decide +kernel) rfl, pm_in 52 (by decide +kernel) rfl, pm_in 678 (by decide +kernel) rfl⟩, by decide +kernel, by decide +kernel, by decide +kernel⟩
theorem kc_RX5_94 : Jvm.Cond.constantLong RX5 94 (3) ∈ pm_good := pm_in 679 (by decide +kernel) rfl
theorem kc_RX5_131 : Jvm.Cond.constantLong RX5 131 (4) ∈ pm_good := pm_in 680 (by decide +kernel) rfl
theorem ml_RX5_133 : pm_MLV RX5 133 MX5_sum 1 := ⟨⟨pm_in 681 (by decide +kernel) rfl, pm_in 683 (by decide +kernel) rfl, pm_in 20 (by decide +kernel) rfl, pm_in 52 (by decide +kernel) rfl, pm_in 684 (by decide +kernel) rfl⟩, by decide +kernel, by decide +kernel, by decide +kernel⟩
theorem ml_RL_22 : pm_MLV RL 22 MX5_share 2 := ⟨⟨pm_in 685 (by decide +kernel) rfl, pm_in 686 (by decide +kernel) rfl, pm_in 687 (by decide +kernel) rfl, pm_in 52 (by decide +kernel) rfl, pm_in 688 (by decide +kernel) rfl⟩, by decide +kernel, by decide +kernel, by decide +kernel⟩
theorem ml_RX5_137 : pm_MLS RX5 137 MX5_isAsker 1 := ⟨⟨pm_in 689 (by decide +kernel) rfl, pm_in 690 (by decide +kernel) rfl, pm_in 52 (by decide +kernel) rfl, pm_in 691 (by decide +kernel) rfl⟩, by decide +kernel, by decide +kernel, by decide +kernel⟩
theorem ml_RL_26 : pm_MLV RL 26 MX5_kind 3 := ⟨⟨pm_in 692 (by decide +kernel) rfl, pm_in 693 (by decide +kernel) rfl, pm_in 694 (by decide +kernel) rfl, pm_in 52 (by decide +kernel) rfl, pm_in 695 (by decide +kernel) rfl⟩, by decide +kernel, by decide +kernel, by decide +kernel⟩
theorem kc_RX5_141 : Jvm.Cond.constantLong RX5 141 (5) ∈ pm_good := pm_in 696 (by decide +kernel) rfl
theorem kc_RX5_143 : Jvm.Cond.constantLong RX5 143 (8) ∈ pm_good := pm_in 697 (by decide +kernel) rfl
theorem ml_RL_30 : pm_MLV RL 30 MX5_hint 3 := ⟨⟨pm_in 698 (by decide +kernel) rfl, pm_in 699 (by decide +kernel) rfl, pm_in 700 (by decide +kernel) rfl, pm_in 52 (by decide +kernel) rfl, pm_in 701 (by decide +kernel) rfl⟩, by decide +kernel, by decide +kernel, by decide +kernel⟩
theorem ml_RX5_145 : pm_MLS RX5 145 MX5_isBlock 1 := ⟨⟨pm_in 702 (by decide +kernel) rfl, pm_in 703 (by decide +kernel) rfl, pm_in 52 (by decide +kernel) rfl, pm_in 704 (by decide +kernel) rfl⟩, by decide +kernel, by decide +kernel, by decide +kernel⟩
theorem kc_RX5_100 : Jvm.Cond.constantLong RX5 100 (63) ∈ pm_good := pm_in 705 (by decide +kernel) rfl
theorem ml_RL_34 : pm_MLV RL 34 MX5_ask 2 := ⟨⟨pm_in 706 (by decide +kernel) rfl, pm_in 707 (by decide +kernel) rfl, pm_in 708 (by decide +kernel) rfl, pm_in 52 (by decide +kernel) rfl, pm_in 709 (by decide +kernel) rfl⟩, by decide +kernel, by decide +kernel, by decide +kernel⟩
theorem ml_RX5_181 : pm_MLV RX5 181 MX5_placeOf 1 := ⟨⟨pm_in 710 (by decide +kernel) rfl, pm_in 712 (by decide +kernel) rfl, pm_in 21 (by decide +kernel) rfl, pm_in 52 (by decide +kernel) rfl, pm_in 713 (by decide +kernel) rfl⟩, by decide +kernel, by decide +kernel, by decide +kernel⟩
theorem ml_RX5_194 : pm_MLV RX5 194 MX5_hit 2 := ⟨⟨pm_in 714 (by decide +kernel) rfl, pm_in 716 (by decide +kernel) rfl, pm_in 22 (by decide +kernel) rfl, pm_in 52 (by decide +kernel) rfl, pm_in 717 (by decide +kernel) rfl⟩, by decide +kernel, by decide +kernel, by decide +kernel⟩
theorem ml_RX5_158 : pm_MLV RX5 158 MX5_drop 1 := ⟨⟨pm_in 718 (by decide +kernel) rfl, pm_in 720 (by decide +kernel) rfl, pm_in 23 (by decide +kernel) rfl, pm_in 52 (by decide +kernel) rfl, pm_in 721 (by decide +kernel) rfl⟩, by decide +kernel, by decide +kernel, by decide +kernel⟩
theorem ml_RX5_184 : pm_MLV RX5 184 MX5_waitOf 1 := ⟨⟨pm_in 722 (by decide +kernel) rfl, pm_in 724 (by decide +kernel) rfl, pm_in 24 (by decide +kernel) rfl, pm_in 52 (by decide +kernel) rfl, pm_in 725 (by decide +kernel) rfl⟩, by decide +kernel, by decide +kernel, by decide +kernel⟩
theorem ml_RX5_178 : pm_MLV RX5 178 MX5_unwait 1 := ⟨⟨pm_in 726 (by decide +kernel) rfl, pm_in 728 (by decide +kernel) rfl, pm_in 25 (by decide +kernel) rfl, pm_in 52 (by decide +kernel) rfl, pm_in 729 (by decide +kernel) rfl⟩, by decide +kernel, by decide +kernel, by decide +kernel⟩
theorem ml_RX5_197 : pm_MLV RX5 197 MX5_tick 0 := ⟨⟨pm_in 730 (by decide +kernel) rfl, pm_in 732 (by decide +kernel) rfl, pm_in 26 (by decide +kernel) rfl, pm_in 52 (by decide +kernel) rfl, pm_in 733 (by decide +kernel) rfl⟩, by decide +kernel, by decide +kernel, by decide +kernel⟩
theorem ml_RX5_170 : pm_MLV RX5 170 MX5_serve 3 := ⟨⟨pm_in 734 (by decide +kernel) rfl, pm_in 736 (by decide +kernel) rfl, pm_in 27 (by decide +kernel) rfl, pm_in 52 (by decide +kernel) rfl, pm_in 737 (by decide +kernel) rfl⟩, by decide +kernel, by decide +kernel, by decide +kernel⟩
theorem ml_RX5_161 : pm_MLV RX5 161 MX5_makesRoom 1 := ⟨⟨pm_in 738 (by decide +kernel) rfl, pm_in 740 (by decide +kernel) rfl, pm_in 28 (by decide +kernel) rfl, pm_in 52 (by decide +kernel) rfl, pm_in 741 (by decide +kernel) rfl⟩, by decide +kernel, by decide +kernel, by decide +kernel⟩
theorem ml_RX5_148 : pm_MLV RX5 148 MX5_owned 1 := ⟨⟨pm_in 742 (by decide +kernel) rfl, pm_in 744 (by decide +kernel) rfl, pm_in 29 (by decide +kernel) rfl, pm_in 52 (by decide +kernel) rfl, pm_in 745 (by decide +kernel) rfl⟩, by decide +kernel, by decide +kernel, by decide +kernel⟩
theorem ml_RX5_151 : pm_MLV RX5 151 MX5_isLeft 1 := ⟨⟨pm_in 746 (by decide +kernel) rfl, pm_in 748 (by decide +kernel) rfl, pm_in 30 (by decide +kernel) rfl, pm_in 52 (by decide +kernel) rfl, pm_in 749 (by decide +kernel) rfl⟩, by decide +kernel, by decide +kernel, by decide +kernel⟩
theorem ml_RX5_154 : pm_MLV RX5 154 MX5_waste 1 := ⟨⟨pm_in 750 (by decide +kernel) rfl, pm_in 752 (by decide +kernel) rfl, pm_in 31 (by decide +kernel) rfl, pm_in 52 (by decide +kernel) rfl, pm_in 753 (by decide +kernel) rfl⟩, by decide +kernel, by decide +kernel, by decide +kernel⟩
theorem ml_RX5_174 : pm_MLV RX5 174 MX5_nearest 0 := ⟨⟨pm_in 754 (by decide +kernel) rfl, pm_in 756 (by decide +kernel) rfl, pm_in 32 (by decide +kernel) rfl, pm_in 52 (by decide +kernel) rfl, pm_in 757 (by decide +kernel) rfl⟩, by decide +kernel, by decide +kernel, by decide +kernel⟩
theorem ml_RX5_200 : pm_MLV RX5 200 MX5_wishAll 4 := ⟨⟨pm_in 758 (by decide +kernel) rfl, pm_in 760 (by decide +kernel) rfl, pm_in 33 (by decide +kernel) rfl, pm_in 52 (by decide +kernel) rfl, pm_in 761 (by decide +kernel) rfl⟩, by decide +kernel, by decide +kernel, by decide +kernel⟩
theorem ml_RX5_187 : pm_MLV RX5 187 MX5_reachOf 1 := ⟨⟨pm_in 762 (by decide +kernel) rfl, pm_in 764 (by decide +kernel) rfl, pm_in 34 (by decide +kernel) rfl, pm_in 52 (by decide +kernel) rfl, pm_in 765 (by decide +kernel) rfl⟩, by decide +kernel, by decide +kernel, by decide +kernel⟩
theorem ml_RX5_190 : pm_MLV RX5 190 MX5_wish 2 := ⟨⟨pm_in 766 (by decide +kernel) rfl, pm_in 768 (by decide +kernel) rfl, pm_in 35 (by decide +kernel) rfl, pm_in 52 (by decide +kernel) rfl, pm_in 769 (by decide +kernel) rfl⟩, by decide +kernel, by decide +kernel, by decide +kernel⟩
theorem ml_RL_39 : pm_MLV RL 39 MX5_idle 1 := ⟨⟨pm_in 770 (by decide +kernel) rfl, pm_in 771 (by decide +kernel) rfl, pm_in 772 (by decide +kernel) rfl, pm_in 52 (by decide +kernel) rfl, pm_in 773 (by decide +kernel) rfl⟩, by decide +kernel, by decide +kernel, by decide +kernel⟩
theorem kc_RX5_204 : Jvm.Cond.constantLong RX5 204 (64) ∈ pm_good := pm_in 774 (by decide +kernel) rfl
theorem ml_RL_43 : pm_MLV RL 43 MX5_told 2 := ⟨⟨pm_in 775 (by decide +kernel) rfl, pm_in 776 (by decide +kernel) rfl, pm_in 777 (by decide +kernel) rfl, pm_in 52 (by decide +kernel) rfl, pm_in 778 (by decide +kernel) rfl⟩, by decide +kernel, by decide +kernel, by decide +kernel⟩
theorem kc_RX5_209 : Jvm.Cond.constantLong RX5 209 (9) ∈ pm_good := pm_in 779 (by decide +kernel) rfl
theorem ml_RX5_211 : pm_MLV RX5 211 MX5_toldOf 2 := ⟨⟨pm_in 780 (by decide +kernel) rfl, pm_in 782 (by decide +kernel) rfl, pm_in 36 (by decide +kernel) rfl, pm_in 52 (by decide +kernel) rfl, pm_in 783 (by decide +kernel) rfl⟩, by decide +kernel, by decide +kernel, by decide +kernel⟩
theorem ml_RX5_206 : pm_MLV RX5 206 MX5_waitsOf 1 := ⟨⟨pm_in 784 (by decide +kernel) rfl, pm_in 786 (by decide +kernel) rfl, pm_in 37 (by decide +kernel) rfl, pm_in 52 (by decide +kernel) rfl, pm_in 787 (by decide +kernel) rfl⟩, by decide +kernel, by decide +kernel, by decide +kernel⟩
theorem ml_RL_47 : pm_MLV RL 47 MX5_reach 1 := ⟨⟨pm_in 788 (by decide +kernel) rfl, pm_in 789 (by decide +kernel) rfl, pm_in 790 (by decide +kernel) rfl, pm_in 52 (by decide +kernel) rfl, pm_in 791 (by decide +kernel) rfl⟩, by decide +kernel, by decide +kernel, by decide +kernel⟩
theorem ml_RL_51 : pm_MLV RL 51 MX5_room 2 := ⟨⟨pm_in 792 (by decide +kernel) rfl, pm_in 793 (by decide +kernel) rfl, pm_in 794 (by decide +kernel) rfl, pm_in 52 (by decide +kernel) rfl, pm_in 795 (by decide +kernel) rfl⟩, by decide +kernel, by decide +kernel, by decide +kernel⟩
theorem ml_RL_55 : pm_MLV RL 55 MX5_waiting 2 := ⟨⟨pm_in 796 (by decide +kernel) rfl, pm_in 797 (by decide +kernel) rfl, pm_in 798 (by decide +kernel) rfl, pm_in 52 (by decide +kernel) rfl, pm_in 799 (by decide +kernel) rfl⟩, by decide +kernel, by decide +kernel, by decide +kernel⟩
theorem ml_RL_59 : pm_MLV RL 59 MX5_follows 2 := ⟨⟨pm_in 800 (by decide +kernel) rfl, pm_in 801 (by decide +kernel) rfl, pm_in 802 (by decide +kernel) rfl, pm_in 52 (by decide +kernel) rfl, pm_in 803 (by decide +kernel) rfl⟩, by decide +kernel, by decide +kernel, by decide +kernel⟩
theorem ml_RL_63 : pm_MLV RL 63 MX5_house 1 := ⟨⟨pm_in 804 (by decide +kernel) rfl, pm_in 805 (by decide +kernel) rfl, pm_in 806 (by decide +kernel) rfl, pm_in 52 (by decide +kernel) rfl, pm_in 807 (by decide +kernel) rfl⟩, by decide +kernel, by decide +kernel, by decide +kernel⟩
theorem ml_RL_67 : pm_MLV RL 67 MX5_foresight 1 := ⟨⟨pm_in 808 (by decide +kernel) rfl, pm_in 809 (by decide +kernel) rfl, pm_in 810 (by decide +kernel) rfl, pm_in 52 (by decide +kernel) rfl, pm_in 811 (by decide +kernel) rfl⟩, by decide +kernel, by decide +kernel, by decide +kernel⟩
theorem kc_RX5_225 : Jvm.Cond.constantLong RX5 225 (24) ∈ pm_good := pm_in 812 (by decide +kernel) rfl
theorem ml_RX5_227 : pm_MLV RX5 227 MX5_indexOf 1 := ⟨⟨pm_in 813 (by decide +kernel) rfl, pm_in 815 (by decide +kernel) rfl, pm_in 38 (by decide +kernel) rfl, pm_in 52 (by decide +kernel) rfl, pm_in 816 (by decide +kernel) rfl⟩, by decide +kernel, by decide +kernel, by decide +kernel⟩
theorem ml_RX5_230 : pm_MLV RX5 230 MX5_findSets 3 := ⟨⟨pm_in 817 (by decide +kernel) rfl, pm_in 819 (by decide +kernel) rfl, pm_in 39 (by decide +kernel) rfl, pm_in 52 (by decide +kernel) rfl, pm_in 820 (by decide +kernel) rfl⟩, by decide +kernel, by decide +kernel, by decide +kernel⟩
theorem ml_RX5_221 : pm_MLV RX5 221 MX5_addSets 1 := ⟨⟨pm_in 821 (by decide +kernel) rfl, pm_in 823 (by decide +kernel) rfl, pm_in 40 (by decide +kernel) rfl, pm_in 52 (by decide +kernel) rfl, pm_in 824 (by decide +kernel) rfl⟩, by decide +kernel, by decide +kernel, by decide +kernel⟩
theorem ml_RX5_218 : pm_MLS RX5 218 MX5_sizeOf 1 := ⟨⟨pm_in 825 (by decide +kernel) rfl, pm_in 826 (by decide +kernel) rfl, pm_in 52 (by decide +kernel) rfl, pm_in 827 (by decide +kernel) rfl⟩, by decide +kernel, by decide +kernel, by decide +kernel⟩
theorem kc_RX5_224 : Jvm.Cond.constant RX5 224 (1000000) ∈ pm_good := pm_in 828 (by decide +kernel) rfl
theorem ml_RX5_233 : pm_MLV RX5 233 MX5_askFor 1 := ⟨⟨pm_in 829 (by decide +kernel) rfl, pm_in 831 (by decide +kernel) rfl, pm_in 41 (by decide +kernel) rfl, pm_in 52 (by decide +kernel) rfl, pm_in 832 (by decide +kernel) rfl⟩, by decide +kernel, by decide +kernel, by decide +kernel⟩
theorem ml_RL_71 : pm_MLV RL 71 MX5_keep 1 := ⟨⟨pm_in 833 (by decide +kernel) rfl, pm_in 834 (by decide +kernel) rfl, pm_in 835 (by decide +kernel) rfl, pm_in 52 (by decide +kernel) rfl, pm_in 836 (by decide +kernel) rfl⟩, by decide +kernel, by decide +kernel, by decide +kernel⟩
theorem ml_RX5_239 : pm_MLV RX5 239 MX5_lay 1 := ⟨⟨pm_in 837 (by decide +kernel) rfl, pm_in 839 (by decide +kernel) rfl, pm_in 42 (by decide +kernel) rfl, pm_in 52 (by decide +kernel) rfl, pm_in 840 (by decide +kernel) rfl⟩, by decide +kernel, by decide +kernel, by decide +kernel⟩
theorem ml_RL_75 : pm_MLV RL 75 MX5_back 1 := ⟨⟨pm_in 841 (by decide +kernel) rfl, pm_in 842 (by decide +kernel) rfl, pm_in 843 (by decide +kernel) rfl, pm_in 52 (by decide +kernel) rfl, pm_in 844 (by decide +kernel) rfl⟩, by decide +kernel, by decide +kernel, by decide +kernel⟩
theorem ml_RX5_242 : pm_MLV RX5 242 MX5_take 0 := ⟨⟨pm_in 845 (by decide +kernel) rfl, pm_in 847 (by decide +kernel) rfl, pm_in 43 (by decide +kernel) rfl, pm_in 52 (by decide +kernel) rfl, pm_in 848 (by decide +kernel) rfl⟩, by decide +kernel, by decide +kernel, by decide +kernel⟩
theorem ml_RL_80 : pm_MLV RL 80 MX5_digest 0 := ⟨⟨pm_in 849 (by decide +kernel) rfl, pm_in 850 (by decide +kernel) rfl, pm_in 851 (by decide +kernel) rfl, pm_in 52 (by decide +kernel) rfl, pm_in 852 (by decide +kernel) rfl⟩, by decide +kernel, by decide +kernel, by decide +kernel⟩
theorem ml_RX5_245 : pm_MLV RX5 245 MX5_digested 2 := ⟨⟨pm_in 853 (by decide +kernel) rfl, pm_in 855 (by decide +kernel) rfl, pm_in 44 (by decide +kernel) rfl, pm_in 52 (by decide +kernel) rfl, pm_in 856 (by decide +kernel) rfl⟩, by decide +kernel, by decide +kernel, by decide +kernel⟩
theorem ml_copy : Jvm.Cond.native arraycopyName ∈ pm_good ∧ Jvm.Cond.static arraycopyName ∈ pm_good ∧ Jvm.Cond.initialized "java/lang/System" ∈ pm_good := ⟨pm_in 519 (by decide +kernel) rfl, pm_in 518 (by decide +kernel) rfl, pm_in 54 (by decide +kernel) rfl⟩
end
section
def pm_qi (post : Int32 → pm_W → Prop) : Option Value → pm_W → Prop := fun r w => ∃ x, r = some (.int x) ∧ post x w
def pm_ql (post : Int64 → pm_W → Prop) : Option Value → pm_W → Prop := fun r w => ∃ x, r = some (.long x) ∧ post x w
def pm_qv (post : pm_W → Prop) : Option Value → pm_W → Prop := fun r w => r = none ∧ post w

theorem pm_iret {L : pm_L} {M : pm_M} {pc : Nat} {lv : List (Option Value)} {w : pm_W} {post : Int32 → pm_W → Prop} {x : Int32} (hd : decode M.2.1 pc = .ok (.ireturn, 1)) (hty : M.2.2.2.1 = some .int) (h : post x w) : pm_R L M pc lv [.int x] w (pm_qi post) := pm_ireturn (st := []) hd hty ⟨x, rfl, h⟩
theorem pm_zret {L : pm_L} {M : pm_M} {pc : Nat} {lv : List (Option Value)} {w : pm_W} {post : Int32 → pm_W → Prop} {x : Int32} (hd : decode M.2.1 pc = .ok (.ireturn, 1)) (hty : M.2.2.2.1 = some .boolean) (hz : x = 0 ∨ x = 1) (h : post x w) : pm_R L M pc lv [.int x] w (pm_qi post) := pm_zreturn (st := []) hd hty hz ⟨x, rfl, h⟩
theorem pm_lret {L : pm_L} {M : pm_M} {pc : Nat} {lv : List (Option Value)} {w : pm_W} {post : Int64 → pm_W → Prop} {x : Int64} (hd : decode M.2.1 pc = .ok (.lreturn, 1)) (hty : M.2.2.2.1 = some .long) (h : post x w) : pm_R L M pc lv [.long x] w (pm_ql post) := pm_lreturn (st := []) hd hty ⟨x, rfl, h⟩
theorem pm_vret {L : pm_L} {M : pm_M} {pc : Nat} {lv : List (Option Value)} {w : pm_W} {post : pm_W → Prop} (hd : decode M.2.1 pc = .ok (.return_, 1)) (hty : M.2.2.2.1 = none) (h : post w) : pm_R L M pc lv [] w (pm_qv post) := pm_return (st := []) hd hty ⟨rfl, h⟩
theorem pm_cVi {L : pm_L} {M : pm_M} {pc : Nat} {lv : List (Option Value)} {st : List Value} {w : pm_W} {Q : Option Value → pm_W → Prop} {idx : Nat} {M' : pm_M} {as : List Value} {post : Int32 → pm_W → Prop} {ci k n : Nat} (hk : L.1 k = (ci, n)) (hc : ci < 6) (hcls : M'.1.cls = pm_R0 ci) (hl0 : pm_MLV M.1.cls idx M' as.length) (hrm : M'.2.2.2.2.1 + 1 ≤ M.2.2.2.2.1 ∧ 8 + (M'.2.2.1 + 11) + M'.2.2.2.2.2 ≤ M.2.2.2.2.2) (hsm : (st.map fun v => v.category).sum ≤ 8) (hd : decode M.2.1 pc = .ok (.invokevirtual idx, 3)) (hC : pm_C L M' (.ref k :: as) w (pm_qi post)) (kk : ∀ (x : Int32) (w' : pm_W), post x w' → pm_R L M (pc + 3) lv (.int x :: st) w' Q) : pm_R L M pc lv (as.reverse ++ .ref k :: st) w Q := pm_callV hk hc hcls hl0 hrm hsm hd hC (fun r w' hq => by
  obtain ⟨x, rfl, h⟩ := hq
  exact kk x w' h)
theorem pm_cSi {L : pm_L} {M : pm_M} {pc : Nat} {lv : List (Option Value)} {st : List Value} {w : pm_W} {Q : Option Value → pm_W → Prop} {idx : Nat} {M' : pm_M} {as : List Value} {post : Int32 → pm_W → Prop}  (hl0 : pm_MLS M.1.cls idx M' as.length) (hrm : M'.2.2.2.2.1 + 1 ≤ M.2.2.2.2.1 ∧ 8 + (M'.2.2.1 + 11) + M'.2.2.2.2.2 ≤ M.2.2.2.2.2) (hsm : (st.map fun v => v.category).sum ≤ 8) (hd : decode M.2.1 pc = .ok (.invokestatic idx, 3)) (hC : pm_C L M' (as) w (pm_qi post)) (kk : ∀ (x : Int32) (w' : pm_W), post x w' → pm_R L M (pc + 3) lv (.int x :: st) w' Q) : pm_R L M pc lv (as.reverse ++ st) w Q := pm_callS hl0 hrm hsm hd hC (fun r w' hq => by
  obtain ⟨x, rfl, h⟩ := hq
  exact kk x w' h)
theorem pm_cNi {L : pm_L} {M : pm_M} {pc : Nat} {lv : List (Option Value)} {st : List Value} {w : pm_W} {Q : Option Value → pm_W → Prop} {idx : Nat} {M' : pm_M} {as : List Value} {post : Int32 → pm_W → Prop} {host : String} (hl0 : pm_MLN M.1.cls idx M' host as.length) (hrm : M'.2.2.2.2.1 + 1 ≤ M.2.2.2.2.1 ∧ 8 + (M'.2.2.1 + 11) + M'.2.2.2.2.2 ≤ M.2.2.2.2.2) (hsm : (st.map fun v => v.category).sum ≤ 8) (hd : decode M.2.1 pc = .ok (.invokestatic idx, 3)) (hC : pm_C L M' (as) w (pm_qi post)) (kk : ∀ (x : Int32) (w' : pm_W), post x w' → pm_R L M (pc + 3) lv (.int x :: st) w' Q) : pm_R L M pc lv (as.reverse ++ st) w Q := pm_callN hl0 hrm hsm hd hC (fun r w' hq => by
  obtain ⟨x, rfl, h⟩ := hq
  exact kk x w' h)
theorem pm_cVl {L : pm_L} {M : pm_M} {pc : Nat} {lv : List (Option Value)} {st : List Value} {w : pm_W} {Q : Option Value → pm_W → Prop} {idx : Nat} {M' : pm_M} {as : List Value} {post : Int64 → pm_W → Prop} {ci k n : Nat} (hk : L.1 k = (ci, n)) (hc : ci < 6) (hcls : M'.1.cls = pm_R0 ci) (hl0 : pm_MLV M.1.cls idx M' as.length) (hrm : M'.2.2.2.2.1 + 1 ≤ M.2.2.2.2.1 ∧ 8 + (M'.2.2.1 + 11) + M'.2.2.2.2.2 ≤ M.2.2.2.2.2) (hsm : (st.map fun v => v.category).sum ≤ 8) (hd : decode M.2.1 pc = .ok (.invokevirtual idx, 3)) (hC : pm_C L M' (.ref k :: as) w (pm_ql post)) (kk : ∀ (x : Int64) (w' : pm_W), post x w' → pm_R L M (pc + 3) lv (.long x :: st) w' Q) : pm_R L M pc lv (as.reverse ++ .ref k :: st) w Q := pm_callV hk hc hcls hl0 hrm hsm hd hC (fun r w' hq => by
  obtain ⟨x, rfl, h⟩ := hq
  exact kk x w' h)
theorem pm_cSl {L : pm_L} {M : pm_M} {pc : Nat} {lv : List (Option Value)} {st : List Value} {w : pm_W} {Q : Option Value → pm_W → Prop} {idx : Nat} {M' : pm_M} {as : List Value} {post : Int64 → pm_W → Prop}  (hl0 : pm_MLS M.1.cls idx M' as.length) (hrm : M'.2.2.2.2.1 + 1 ≤ M.2.2.2.2.1 ∧ 8 + (M'.2.2.1 + 11) + M'.2.2.2.2.2 ≤ M.2.2.2.2.2) (hsm : (st.map fun v => v.category).sum ≤ 8) (hd : decode M.2.1 pc = .ok (.invokestatic idx, 3)) (hC : pm_C L M' (as) w (pm_ql post)) (kk : ∀ (x : Int64) (w' : pm_W), post x w' → pm_R L M (pc + 3) lv (.long x :: st) w' Q) : pm_R L M pc lv (as.reverse ++ st) w Q := pm_callS hl0 hrm hsm hd hC (fun r w' hq => by
  obtain ⟨x, rfl, h⟩ := hq
  exact kk x w' h)
theorem pm_cNl {L : pm_L} {M : pm_M} {pc : Nat} {lv : List (Option Value)} {st : List Value} {w : pm_W} {Q : Option Value → pm_W → Prop} {idx : Nat} {M' : pm_M} {as : List Value} {post : Int64 → pm_W → Prop} {host : String} (hl0 : pm_MLN M.1.cls idx M' host as.length) (hrm : M'.2.2.2.2.1 + 1 ≤ M.2.2.2.2.1 ∧ 8 + (M'.2.2.1 + 11) + M'.2.2.2.2.2 ≤ M.2.2.2.2.2) (hsm : (st.map fun v => v.category).sum ≤ 8) (hd : decode M.2.1 pc = .ok (.invokestatic idx, 3)) (hC : pm_C L M' (as) w (pm_ql post)) (kk : ∀ (x : Int64) (w' : pm_W), post x w' → pm_R L M (pc + 3) lv (.long x :: st) w' Q) : pm_R L M pc lv (as.reverse ++ st) w Q := pm_callN hl0 hrm hsm hd hC (fun r w' hq => by
  obtain ⟨x, rfl, h⟩ := hq
  exact kk x w' h)
theorem pm_cVv {L : pm_L} {M : pm_M} {pc : Nat} {lv : List (Option Value)} {st : List Value} {w : pm_W} {Q : Option Value → pm_W → Prop} {idx : Nat} {M' : pm_M} {as : List Value} {post : pm_W → Prop} {ci k n : Nat} (hk : L.1 k = (ci, n)) (hc : ci < 6) (hcls : M'.1.cls = pm_R0 ci) (hl0 : pm_MLV M.1.cls idx M' as.length) (hrm : M'.2.2.2.2.1 + 1 ≤ M.2.2.2.2.1 ∧ 8 + (M'.2.2.1 + 11) + M'.2.2.2.2.2 ≤ M.2.2.2.2.2) (hsm : (st.map fun v => v.category).sum ≤ 8) (hd : decode M.2.1 pc = .ok (.invokevirtual idx, 3)) (hC : pm_C L M' (.ref k :: as) w (pm_qv post)) (kk : ∀ (w' : pm_W), post w' → pm_R L M (pc + 3) lv st w' Q) : pm_R L M pc lv (as.reverse ++ .ref k :: st) w Q := pm_callV hk hc hcls hl0 hrm hsm hd hC (fun r w' hq => by
  obtain ⟨rfl, h⟩ := hq
  exact kk w' h)
theorem pm_cSv {L : pm_L} {M : pm_M} {pc : Nat} {lv : List (Option Value)} {st : List Value} {w : pm_W} {Q : Option Value → pm_W → Prop} {idx : Nat} {M' : pm_M} {as : List Value} {post : pm_W → Prop}  (hl0 : pm_MLS M.1.cls idx M' as.length) (hrm : M'.2.2.2.2.1 + 1 ≤ M.2.2.2.2.1 ∧ 8 + (M'.2.2.1 + 11) + M'.2.2.2.2.2 ≤ M.2.2.2.2.2) (hsm : (st.map fun v => v.category).sum ≤ 8) (hd : decode M.2.1 pc = .ok (.invokestatic idx, 3)) (hC : pm_C L M' (as) w (pm_qv post)) (kk : ∀ (w' : pm_W), post w' → pm_R L M (pc + 3) lv st w' Q) : pm_R L M pc lv (as.reverse ++ st) w Q := pm_callS hl0 hrm hsm hd hC (fun r w' hq => by
  obtain ⟨rfl, h⟩ := hq
  exact kk w' h)
theorem pm_moni {L : pm_L} {M : pm_M} {as : List Value} {w : pm_W} {post post' : Int32 → pm_W → Prop} (h : pm_C L M as w (pm_qi post)) (hq : ∀ x w', post x w' → post' x w') : pm_C L M as w (pm_qi post') := pm_mono h (fun r w' q => by obtain ⟨x, e, q⟩ := q; exact ⟨x, e, hq x w' q⟩)
theorem pm_monv {L : pm_L} {M : pm_M} {as : List Value} {w : pm_W} {post post' : pm_W → Prop} (h : pm_C L M as w (pm_qv post)) (hq : ∀ w', post w' → post' w') : pm_C L M as w (pm_qv post') := pm_mono h (fun r w' q => by obtain ⟨e, q⟩ := q; exact ⟨e, hq w' q⟩)
-- a name for the number on top
theorem pm_topi {L : pm_L} {M : pm_M} {pc : Nat} {lv : List (Option Value)} {st : List Value} {w : pm_W} {Q : Option Value → pm_W → Prop} {x : Int32} (y : Int32) (e : x = y) (h : pm_R L M pc lv (.int y :: st) w Q) : pm_R L M pc lv (.int x :: st) w Q := by subst e; exact h
theorem pm_wld {L : pm_L} {M : pm_M} {pc : Nat} {lv : List (Option Value)} {st : List Value} {w : pm_W} {Q : Option Value → pm_W → Prop} (w' : pm_W) (e : w = w') (h : pm_R L M pc lv st w' Q) : pm_R L M pc lv st w Q := by subst e; exact h
theorem pm_ialdN {L : pm_L} {M : pm_M} {pc : Nat} {lv : List (Option Value)} {st : List Value} {w : pm_W} {Q : Option Value → pm_W → Prop} {k n i : Nat} (hk : L.1 k = (10, n)) (hi : i < n) (hn : n < 2 ^ 31) (hd : decode M.2.1 pc = .ok (.iaload, 1)) (h : pm_R L M (pc + 1) lv (.int (w.1 k i) :: st) w Q) : pm_R L M pc lv (.int (nI i) :: .ref k :: st) w Q := pm_iald hk (vp_in_nI hi hn) hd (by rw [nI_clamp (by omega)]; exact h)
theorem pm_iastN {L : pm_L} {M : pm_M} {pc : Nat} {lv : List (Option Value)} {st : List Value} {w : pm_W} {Q : Option Value → pm_W → Prop} {k n i : Nat} {x : Int32} (hk : L.1 k = (10, n)) (hi : i < n) (hn : n < 2 ^ 31) (hd : decode M.2.1 pc = .ok (.iastore, 1)) (h : pm_R L M (pc + 1) lv st (pm_s w k (upd (w.1 k) i x)) Q) : pm_R L M pc lv (.int x :: .int (nI i) :: .ref k :: st) w Q := pm_iast hk (vp_in_nI hi hn) hd (by rw [nI_clamp (by omega)]; exact h)
theorem pm_zaldN {L : pm_L} {M : pm_M} {pc : Nat} {lv : List (Option Value)} {st : List Value} {w : pm_W} {Q : Option Value → pm_W → Prop} {k n i : Nat} (hk : L.1 k = (11, n)) (hi : i < n) (hn : n < 2 ^ 31) (hd : decode M.2.1 pc = .ok (.baload, 1)) (h : pm_R L M (pc + 1) lv (.int (w.1 k i) :: st) w Q) : pm_R L M pc lv (.int (nI i) :: .ref k :: st) w Q := pm_zald hk (vp_in_nI hi hn) hd (by rw [nI_clamp (by omega)]; exact h)
theorem pm_zastN {L : pm_L} {M : pm_M} {pc : Nat} {lv : List (Option Value)} {st : List Value} {w : pm_W} {Q : Option Value → pm_W → Prop} {k n i : Nat} {x : Int32} (hk : L.1 k = (11, n)) (hi : i < n) (hn : n < 2 ^ 31) (hz : x = 0 ∨ x = 1) (hd : decode M.2.1 pc = .ok (.bastore, 1)) (h : pm_R L M (pc + 1) lv st (pm_s w k (upd (w.1 k) i x)) Q) : pm_R L M pc lv (.int x :: .int (nI i) :: .ref k :: st) w Q := pm_zast hk (vp_in_nI hi hn) hz hd (by rw [nI_clamp (by omega)]; exact h)
theorem pm_laldN {L : pm_L} {M : pm_M} {pc : Nat} {lv : List (Option Value)} {st : List Value} {w : pm_W} {Q : Option Value → pm_W → Prop} {k n i : Nat} (hk : L.1 k = (12, n)) (hi : i < n) (hn : n < 2 ^ 31) (hd : decode M.2.1 pc = .ok (.laload, 1)) (h : pm_R L M (pc + 1) lv (.long (w.2 k i) :: st) w Q) : pm_R L M pc lv (.int (nI i) :: .ref k :: st) w Q := pm_lald hk (vp_in_nI hi hn) hd (by rw [nI_clamp (by omega)]; exact h)
theorem pm_lastN {L : pm_L} {M : pm_M} {pc : Nat} {lv : List (Option Value)} {st : List Value} {w : pm_W} {Q : Option Value → pm_W → Prop} {k n i : Nat} {x : Int64} (hk : L.1 k = (12, n)) (hi : i < n) (hn : n < 2 ^ 31) (hd : decode M.2.1 pc = .ok (.lastore, 1)) (h : pm_R L M (pc + 1) lv st (pm_sL w k (vp_updL (w.2 k) i x)) Q) : pm_R L M pc lv (.long x :: .int (nI i) :: .ref k :: st) w Q := pm_last hk (vp_in_nI hi hn) hd (by rw [nI_clamp (by omega)]; exact h)
theorem pm_kaldN {L : pm_L} {M : pm_M} {pc : Nat} {lv : List (Option Value)} {st : List Value} {w : pm_W} {Q : Option Value → pm_W → Prop} {k n i a : Nat} (hk : L.1 k = (14, n)) (hi : i < n) (hn : n < 2 ^ 31) (hr2 : L.2 k i = some a) (hd : decode M.2.1 pc = .ok (.aaload, 1)) (h : pm_R L M (pc + 1) lv (.ref a :: st) w Q) : pm_R L M pc lv (.int (nI i) :: .ref k :: st) w Q := pm_kald hk (vp_in_nI hi hn) (by rw [nI_clamp (by omega)]; exact hr2) hd h
theorem pm_haldN {L : pm_L} {M : pm_M} {pc : Nat} {lv : List (Option Value)} {st : List Value} {w : pm_W} {Q : Option Value → pm_W → Prop} {k n i a : Nat} (hk : L.1 k = (13, n)) (hi : i < n) (hn : n < 2 ^ 31) (hr2 : L.2 k i = some a) (hd : decode M.2.1 pc = .ok (.aaload, 1)) (h : pm_R L M (pc + 1) lv (.ref a :: st) w Q) : pm_R L M pc lv (.int (nI i) :: .ref k :: st) w Q := pm_hald hk (vp_in_nI hi hn) (by rw [nI_clamp (by omega)]; exact hr2) hd h
theorem pm_lald_HASN {L : pm_L} {M : pm_M} {pc : Nat} {lv : List (Option Value)} {st : List Value} {w : pm_W} {Q : Option Value → pm_W → Prop} {i : Nat} (hi : i < 6) (hd : decode M.2.1 pc = .ok (.laload, 1)) (h : pm_R L M (pc + 1) lv (.long (pm_has.getD i 0) :: st) w Q) : pm_R L M pc lv (.int (nI i) :: .ref 1000 :: st) w Q := pm_lald_HAS (vp_in_nI hi (by decide)) hd (by rw [nI_clamp (by omega)]; exact h)
theorem pm_lald_SIZEDN {L : pm_L} {M : pm_M} {pc : Nat} {lv : List (Option Value)} {st : List Value} {w : pm_W} {Q : Option Value → pm_W → Prop} {i : Nat} (hi : i < 7) (hd : decode M.2.1 pc = .ok (.laload, 1)) (h : pm_R L M (pc + 1) lv (.long (pm_sized.getD i 0) :: st) w Q) : pm_R L M pc lv (.int (nI i) :: .ref 1001 :: st) w Q := pm_lald_SIZED (vp_in_nI hi (by decide)) hd (by rw [nI_clamp (by omega)]; exact h)
end
section
theorem pm_enterF {L : pm_L} {M : pm_M} {as : List Value} {lv : List (Option Value)} {w : pm_W} {Q : Option Value → pm_W → Prop} (hy : plainFor M.1 = true) (hn : (pm_ent as).length ≤ M.2.2.1) (hlv : ∀ (i : Nat) (v : Value), lv[i]? = some (some v) → (pm_ent as)[i]? = some (some v)) (h : pm_R L M 0 lv [] w Q) : pm_C L M as w Q := by
  intro l D G ho
  refine va_MetF (cc := M.2.1) (maxL := M.2.2.1) (ret := M.2.2.2.1) hy rfl ?_
  intro p e s m args below meth c s₁ B hml hv
  obtain ⟨rfl, hP, hK⟩ := hv
  have hl := lv_entry (as.map (pm_v G)) (n := M.2.2.1) (by rw [pm_sl_len]; exact hn)
  rw [lg_entry_eq]
  refine h p l e s m _ below meth c D G ⟨B.exec, B.bytes, hml, findClass_of_methodNamed B.named, B.returns, B.notSynchronized, atoms_spec (ws := pm_ws M) B.pre, ho, hK⟩ s.heap [] _ hP va_S.rf ⟨hl.1, hl.2.1, fun q hq => ?_⟩
  obtain ⟨a, u⟩ := q
  obtain ⟨v, h1, rfl⟩ := pm_lv_mem.mp hq
  have := pm_ent_at (G := G) as 0 a v (hlv a v h1)
  rw [Nat.zero_add] at this
  exact hl.2.2 _ this
theorem pm_start {L : pm_L} {M : pm_M} {as : List Value} {lv : List (Option Value)} {w : pm_W} {Q : Option Value → pm_W → Prop} (hy : plainFor M.1 = true) (hn : (pm_ent as).length ≤ M.2.2.1) (hlv : pm_ent as ++ List.replicate (M.2.2.1 - (pm_ent as).length) none = lv) (h : pm_R L M 0 lv [] w Q) : pm_C L M as w Q := by
  refine pm_enterF hy hn (fun i v hi => ?_) h
  rw [← hlv] at hi
  by_cases hl : i < (pm_ent as).length
  · rw [List.getElem?_append_left hl] at hi
    exact hi
  · rw [List.getElem?_append_right (by omega)] at hi
    have := List.eq_of_mem_replicate (List.mem_of_getElem? hi)
    cases this
/-- a truth as an int -/
def pm_z (b : Bool) : Int32 := if b then 1 else 0
theorem pm_z_0 {b : Bool} : pm_z b = 0 ↔ b = false := by cases b <;> decide
theorem pm_z_1 {b : Bool} : ¬ pm_z b = 0 ↔ b = true := by cases b <;> decide
theorem pm_z_or (b : Bool) : pm_z b = 0 ∨ pm_z b = 1 := by cases b <;> decide
theorem pm_z_t : pm_z true = 1 := rfl
theorem pm_z_f : pm_z false = 0 := rfl
def pm_bw (n a b : Int32) : Bool := decide (a ≤ n) && decide (n ≤ b)
theorem pm_bw_t {n a b : Int32} : pm_bw n a b = true ↔ a ≤ n ∧ n ≤ b := by simp [pm_bw]
theorem pm_bw_f {n a b : Int32} : pm_bw n a b = false ↔ n < a ∨ b < n := by
  rw [← Bool.not_eq_true, pm_bw_t]
  simp only [Int32.le_iff_toInt_le, Int32.lt_iff_toInt_lt]
  omega

theorem up_loop {P : Nat → Prop} (N : Nat) (h : ∀ i, i ≤ N → (i < N → P (i + 1)) → P i) : ∀ i, i ≤ N → P i := by
  have key : ∀ m i, i + m = N → P i := by
    intro m
    induction m with
    | zero => intro i hi; exact h i (by omega) (fun h2 => absurd h2 (by omega))
    | succ m ih => intro i hi; exact h i (by omega) (fun _ => ih (i + 1) (by omega))
  exact fun i hi => key (N - i) i (by omega)
theorem pm_nn_xor {a : Nat} (ha : a < 2 ^ 31) : 0 ≤ nI a ^^^ nI 24 := by
  have e : nI a ^^^ nI 24 = nI (a ^^^ 24) := by
    apply Int32.toBitVec_inj.mp
    show BitVec.ofNat 32 a ^^^ BitVec.ofNat 32 24 = BitVec.ofNat 32 (a ^^^ 24)
    apply BitVec.eq_of_toNat_eq
    simp only [BitVec.toNat_xor, BitVec.toNat_ofNat]
    exact (Nat.xor_mod_two_pow).symm
  rw [e]
  exact nI_pos' (Nat.xor_lt_two_pow ha (by decide))
theorem pf0 : plainName RX0 = true := by decide +kernel
theorem pf1 : plainName RX1 = true := by decide +kernel
theorem pf2 : plainName RX2 = true := by decide +kernel
theorem pf3 : plainName RX3 = true := by decide +kernel
theorem pf4 : plainName RX4 = true := by decide +kernel
theorem pf5 : plainName RX5 = true := by decide +kernel
theorem pf7 : plainName RJ7 = true := by decide +kernel

set_option maxRecDepth 4000 in
theorem c_X4_within (L : pm_L) (w : pm_W) (n a b : Int32) : pm_C L MX4_within [.int n, .int a, .int b] w (pm_qi fun r w1 => r = pm_z (pm_bw n a b) ∧ w1 = w) := by
  refine pm_start (lv := [some (.int _), some (.int _), some (.int _)]) (plainFor_of_name pf4) (Nat.le_of_ble_eq_true rfl) rfl ?_
  refine pm_iload_n dX4_within_0 rfl ?_
  refine pm_iload_n dX4_within_1 rfl ?_
  refine pm_icmp_gt (tgt := 14) dX4_within_2 (by decide) (fun c2 => ?_) (fun c2 => ?_)
  · refine pm_iconst (x := 0) dX4_within_14 rfl ?_
    refine pm_zret dX4_within_15 rfl (by first | exact Or.inl rfl | exact Or.inr rfl | assumption) ?_
    exact ⟨by first | (rw [pm_bw_t.mpr ⟨by first | assumption | exact Int32.not_lt.mp ‹_›, by first | assumption | exact Int32.not_lt.mp ‹_›⟩]; rfl) | (rw [pm_bw_f.mpr (by first | exact Or.inl ‹_› | exact Or.inr ‹_›)]; rfl), rfl⟩
  · refine pm_iload_n dX4_within_5 rfl ?_
    refine pm_iload_n dX4_within_6 rfl ?_
    refine pm_icmp_gt (tgt := 14) dX4_within_7 (by decide) (fun c7 => ?_) (fun c7 => ?_)
    · refine pm_iconst (x := 0) dX4_within_14 rfl ?_
      refine pm_zret dX4_within_15 rfl (by first | exact Or.inl rfl | exact Or.inr rfl | assumption) ?_
      exact ⟨by first | (rw [pm_bw_t.mpr ⟨by first | assumption | exact Int32.not_lt.mp ‹_›, by first | assumption | exact Int32.not_lt.mp ‹_›⟩]; rfl) | (rw [pm_bw_f.mpr (by first | exact Or.inl ‹_› | exact Or.inr ‹_›)]; rfl), rfl⟩
    · refine pm_iconst (x := 1) dX4_within_10 rfl ?_
      refine pm_goto (tgt := 15) dX4_within_11 (by decide) ?_
      refine pm_zret dX4_within_15 rfl (by first | exact Or.inl rfl | exact Or.inr rfl | assumption) ?_
      exact ⟨by first | (rw [pm_bw_t.mpr ⟨by first | assumption | exact Int32.not_lt.mp ‹_›, by first | assumption | exact Int32.not_lt.mp ‹_›⟩]; rfl) | (rw [pm_bw_f.mpr (by first | exact Or.inl ‹_› | exact Or.inr ‹_›)]; rfl), rfl⟩

set_option maxRecDepth 4000 in
theorem c_X4_isAsker (L : pm_L) (w : pm_W) (p : Int32) : pm_C L MX4_isAsker [.int p] w (pm_qi fun r w1 => r = pm_z (pm_bw p 0 3) ∧ w1 = w) := by
  refine pm_start (lv := [some (.int _)]) (plainFor_of_name pf4) (Nat.le_of_ble_eq_true rfl) rfl ?_
  refine pm_iload_n dX4_isAsker_0 rfl ?_
  refine pm_iconst (x := 0) dX4_isAsker_1 rfl ?_
  refine pm_iconst (x := 3) dX4_isAsker_2 rfl ?_
  refine pm_cSi (as := [.int _, .int _, .int _]) ml_RX4_31 (by decide) (by decide) dX4_isAsker_3 (c_X4_within L _ _ _ _) (fun x1 w1 hq => ?_)
  obtain ⟨rfl, rfl⟩ := hq
  refine pm_zret dX4_isAsker_6 rfl (by exact pm_z_or _) ?_
  exact ⟨rfl, rfl⟩

set_option maxRecDepth 4000 in
theorem c_X4_isBlock (L : pm_L) (w : pm_W) (p : Int32) : pm_C L MX4_isBlock [.int p] w (pm_qi fun r w1 => r = pm_z (pm_bw p 0 63) ∧ w1 = w) := by
  refine pm_start (lv := [some (.int _)]) (plainFor_of_name pf4) (Nat.le_of_ble_eq_true rfl) rfl ?_
  refine pm_iload_n dX4_isBlock_0 rfl ?_
  refine pm_iconst (x := 0) dX4_isBlock_1 rfl ?_
  refine pm_bipush (x := 63) dX4_isBlock_2 rfl ?_
  refine pm_cSi (as := [.int _, .int _, .int _]) ml_RX4_31 (by decide) (by decide) dX4_isBlock_4 (c_X4_within L _ _ _ _) (fun x1 w1 hq => ?_)
  obtain ⟨rfl, rfl⟩ := hq
  refine pm_zret dX4_isBlock_7 rfl (by exact pm_z_or _) ?_
  exact ⟨rfl, rfl⟩

set_option maxRecDepth 4000 in
theorem c_X4_isShelf (L : pm_L) (w : pm_W) (p : Int32) : pm_C L MX4_isShelf [.int p] w (pm_qi fun r w1 => r = pm_z (pm_bw p 0 1) ∧ w1 = w) := by
  refine pm_start (lv := [some (.int _)]) (plainFor_of_name pf4) (Nat.le_of_ble_eq_true rfl) rfl ?_
  refine pm_iload_n dX4_isShelf_0 rfl ?_
  refine pm_iconst (x := 0) dX4_isShelf_1 rfl ?_
  refine pm_iconst (x := 1) dX4_isShelf_2 rfl ?_
  refine pm_cSi (as := [.int _, .int _, .int _]) ml_RX4_31 (by decide) (by decide) dX4_isShelf_3 (c_X4_within L _ _ _ _) (fun x1 w1 hq => ?_)
  obtain ⟨rfl, rfl⟩ := hq
  refine pm_zret dX4_isShelf_6 rfl (by exact pm_z_or _) ?_
  exact ⟨rfl, rfl⟩

theorem i2l_le {x y : Int32} : x.toInt64 ≤ y.toInt64 ↔ x ≤ y := by simp [Int64.le_iff_toInt_le, Int32.le_iff_toInt_le]
theorem i2l_lt {x y : Int32} : x.toInt64 < y.toInt64 ↔ x < y := by simp [Int64.lt_iff_toInt_lt, Int32.lt_iff_toInt_lt]

set_option maxRecDepth 4000 in
theorem c_X5_in (L : pm_L) (w : pm_W) {V A B : Int64} {n a b : Int32} (hV : V = n.toInt64) (hA : A = a.toInt64) (hB : B = b.toInt64) : pm_C L MX5_in [.long V, .long A, .long B] w (pm_qi fun r w1 => r = pm_z (pm_bw n a b) ∧ w1 = w) := by
  subst hV hA hB
  refine pm_start (lv := [some (.long _), none, some (.long _), none, some (.long _), none]) (plainFor_of_name pf5) (Nat.le_of_ble_eq_true rfl) rfl ?_
  refine pm_lload_n dX5_in_0 rfl ?_
  refine pm_lload_n dX5_in_1 rfl ?_
  refine pm_lcmp dX5_in_2 ?_
  refine pm_if_lt (tgt := 17) dX5_in_3 (by decide) (fun c3 => ?_) (fun c3 => ?_)
  · refine pm_iconst (x := 0) dX5_in_17 rfl ?_
    refine pm_zret dX5_in_18 rfl (by first | exact Or.inl rfl | exact Or.inr rfl | assumption) ?_
    rw [lg_cmp_lt, i2l_lt] at c3
    exact ⟨by rw [pm_bw_f.mpr (Or.inl c3)]; rfl, rfl⟩
  · refine pm_lload_n dX5_in_6 rfl ?_
    refine pm_lload dX5_in_7 rfl ?_
    refine pm_lcmp dX5_in_9 ?_
    refine pm_if_gt (tgt := 17) dX5_in_10 (by decide) (fun c10 => ?_) (fun c10 => ?_)
    · refine pm_iconst (x := 0) dX5_in_17 rfl ?_
      refine pm_zret dX5_in_18 rfl (by first | exact Or.inl rfl | exact Or.inr rfl | assumption) ?_
      rw [lg_cmp_gt, i2l_lt] at c10
      exact ⟨by rw [pm_bw_f.mpr (Or.inr c10)]; rfl, rfl⟩
    · refine pm_iconst (x := 1) dX5_in_13 rfl ?_
      refine pm_goto (tgt := 18) dX5_in_14 (by decide) ?_
      refine pm_zret dX5_in_18 rfl (by first | exact Or.inl rfl | exact Or.inr rfl | assumption) ?_
      rw [lg_cmp_lt, i2l_lt] at c3
      rw [lg_cmp_gt, i2l_lt] at c10
      exact ⟨by rw [pm_bw_t.mpr ⟨Int32.not_lt.mp c3, Int32.not_lt.mp c10⟩]; rfl, rfl⟩

set_option maxRecDepth 4000 in
theorem c_X5_isAsker (L : pm_L) (w : pm_W) (p : Int32) : pm_C L MX5_isAsker [.int p] w (pm_qi fun r w1 => r = pm_z (pm_bw p 0 3) ∧ w1 = w) := by
  refine pm_start (lv := [some (.int _)]) (plainFor_of_name pf5) (Nat.le_of_ble_eq_true rfl) rfl ?_
  refine pm_iload_n dX5_isAsker_0 rfl ?_
  refine pm_i2l dX5_isAsker_1 ?_
  refine pm_lconst (x := 0) dX5_isAsker_2 rfl ?_
  refine pm_ldc2 kc_RX5_94 dX5_isAsker_3 ?_
  refine pm_cSi (as := [.long _, .long _, .long _]) ml_RX5_96 (by decide) (by decide) dX5_isAsker_6 (c_X5_in (n := p) (a := 0) (b := 3) L _ rfl (by decide) (by decide)) (fun x1 w1 hq => ?_)
  obtain ⟨rfl, rfl⟩ := hq
  refine pm_zret dX5_isAsker_9 rfl (by exact pm_z_or _) ?_
  exact ⟨rfl, rfl⟩

set_option maxRecDepth 4000 in
theorem c_X5_isBlock (L : pm_L) (w : pm_W) (p : Int32) : pm_C L MX5_isBlock [.int p] w (pm_qi fun r w1 => r = pm_z (pm_bw p 0 63) ∧ w1 = w) := by
  refine pm_start (lv := [some (.int _)]) (plainFor_of_name pf5) (Nat.le_of_ble_eq_true rfl) rfl ?_
  refine pm_iload_n dX5_isBlock_0 rfl ?_
  refine pm_i2l dX5_isBlock_1 ?_
  refine pm_lconst (x := 0) dX5_isBlock_2 rfl ?_
  refine pm_ldc2 kc_RX5_100 dX5_isBlock_3 ?_
  refine pm_cSi (as := [.long _, .long _, .long _]) ml_RX5_96 (by decide) (by decide) dX5_isBlock_6 (c_X5_in (n := p) (a := 0) (b := 63) L _ rfl (by decide) (by decide)) (fun x1 w1 hq => ?_)
  obtain ⟨rfl, rfl⟩ := hq
  refine pm_zret dX5_isBlock_9 rfl (by exact pm_z_or _) ?_
  exact ⟨rfl, rfl⟩

def ab_abs (x : Int32) : Int32 := if 0 ≤ x then x else -x
def ab_min (x y : Int32) : Int32 := if y < x then y else x
set_option maxRecDepth 4000 in
theorem c_J9_abs_0f7a4 (L : pm_L) (w : pm_W) (x : Int32) : pm_C L MJ9_abs_0f7a4 [.int x] w (pm_qi fun r w1 => r = ab_abs x ∧ w1 = w) := by
  refine pm_start (lv := [some (.int _)]) (by decide +kernel) (Nat.le_of_ble_eq_true rfl) rfl ?_
  refine pm_iload_n dJ9_abs_0f7a4_0 rfl ?_
  refine pm_if_ge (tgt := 9) dJ9_abs_0f7a4_1 (by decide) (fun c1 => ?_) (fun c1 => ?_)
  · refine pm_iload_n dJ9_abs_0f7a4_9 rfl ?_
    refine pm_iret dJ9_abs_0f7a4_10 rfl ?_
    exact ⟨(if_pos c1).symm, rfl⟩
  · refine pm_iload_n dJ9_abs_0f7a4_4 rfl ?_
    refine pm_ineg dJ9_abs_0f7a4_5 ?_
    refine pm_goto (tgt := 10) dJ9_abs_0f7a4_6 (by decide) ?_
    refine pm_iret dJ9_abs_0f7a4_10 rfl ?_
    exact ⟨(if_neg c1).symm, rfl⟩

set_option maxRecDepth 4000 in
theorem c_J9_min_7cf53 (L : pm_L) (w : pm_W) (x y : Int32) : pm_C L MJ9_min_7cf53 [.int x, .int y] w (pm_qi fun r w1 => r = ab_min x y ∧ w1 = w) := by
  refine pm_start (lv := [some (.int _), some (.int _)]) (by decide +kernel) (Nat.le_of_ble_eq_true rfl) rfl ?_
  refine pm_iload_n dJ9_min_7cf53_0 rfl ?_
  refine pm_iload_n dJ9_min_7cf53_1 rfl ?_
  refine pm_icmp_gt (tgt := 9) dJ9_min_7cf53_2 (by decide) (fun c2 => ?_) (fun c2 => ?_)
  · refine pm_iload_n dJ9_min_7cf53_9 rfl ?_
    refine pm_iret dJ9_min_7cf53_10 rfl ?_
    exact ⟨(if_pos c2).symm, rfl⟩
  · refine pm_iload_n dJ9_min_7cf53_5 rfl ?_
    refine pm_goto (tgt := 10) dJ9_min_7cf53_6 (by decide) ?_
    refine pm_iret dJ9_min_7cf53_10 rfl ?_
    exact ⟨(if_neg c2).symm, rfl⟩

set_option maxRecDepth 4000 in
theorem c_J9_floorMod_7cf53 (L : pm_L) (w : pm_W) {a : Nat} (ha : a < 2 ^ 31) : pm_C L MJ9_floorMod_7cf53 [.int (nI a), .int (nI 24)] w (pm_qi fun r w1 => r = nI (a % 24) ∧ w1 = w) := by
  have e9 : nI a - nI a / nI 24 * nI 24 = nI (a % 24) := pk_rem ha (by decide) (by decide)
  refine pm_start (lv := [some (.int _), some (.int _), none]) (by decide +kernel) (Nat.le_of_ble_eq_true rfl) rfl ?_
  refine pm_iload_n dJ9_floorMod_7cf53_0 rfl ?_
  refine pm_iload_n dJ9_floorMod_7cf53_1 rfl ?_
  refine pm_irem dJ9_floorMod_7cf53_2 (by decide) ?_
  rw [e9]
  refine pm_istore_n (lv' := [some (.int _), some (.int _), some (.int _)]) dJ9_floorMod_7cf53_3 (by decide) rfl ?_
  refine pm_iload_n dJ9_floorMod_7cf53_4 rfl ?_
  refine pm_iload_n dJ9_floorMod_7cf53_5 rfl ?_
  refine pm_ixor dJ9_floorMod_7cf53_6 ?_
  refine pm_if_ge (tgt := 18) dJ9_floorMod_7cf53_7 (by decide) (fun c7 => ?_) (fun c7 => absurd (pm_nn_xor ha) c7)
  refine pm_iload_n dJ9_floorMod_7cf53_18 rfl ?_
  refine pm_iret dJ9_floorMod_7cf53_19 rfl ?_
  exact ⟨rfl, rfl⟩

set_option maxRecDepth 4000 in
theorem c_X3_placeInRow (L : pm_L) (w : pm_W) {a : Nat} (ha : a < 2 ^ 31) : pm_C L MX3_placeInRow [.int (nI a)] w (pm_qi fun r w1 => r = nI (a % 24) ∧ w1 = w) := by
  refine pm_start (lv := [some (.int _)]) (plainFor_of_name pf3) (Nat.le_of_ble_eq_true rfl) rfl ?_
  refine pm_iload_n dX3_placeInRow_0 rfl ?_
  refine pm_bipush (x := nI 24) dX3_placeInRow_1 rfl ?_
  refine pm_cSi (as := [.int _, .int _]) ml_RX3_201 (by decide) (by decide) dX3_placeInRow_3 (c_J9_floorMod_7cf53 L _ ha) (fun x1 w1 hq => ?_)
  obtain ⟨rfl, rfl⟩ := hq
  refine pm_iret dX3_placeInRow_6 rfl ?_
  exact ⟨rfl, rfl⟩

set_option maxRecDepth 4000 in
theorem c_X4_mixed (L : pm_L) (w : pm_W) (d x : Int32) : pm_C L MX4_mixed [.int d, .int x] w (pm_qi fun r w1 => r = 31 * d + x ∧ w1 = w) := by
  refine pm_start (lv := [some (.int _), some (.int _)]) (plainFor_of_name pf4) (Nat.le_of_ble_eq_true rfl) rfl ?_
  refine pm_bipush (x := 31) dX4_mixed_0 rfl ?_
  refine pm_iload_n dX4_mixed_2 rfl ?_
  refine pm_imul dX4_mixed_3 ?_
  refine pm_iload_n dX4_mixed_4 rfl ?_
  refine pm_iadd dX4_mixed_5 ?_
  refine pm_iret dX4_mixed_6 rfl ?_
  exact ⟨rfl, rfl⟩

set_option maxRecDepth 4000 in
theorem c_X5_digested (L : pm_L) (w : pm_W) (k : Nat) (d x : Int32) : pm_C L MX5_digested [.ref k, .int d, .int x] w (pm_qi fun r w1 => r = 31 * d + x ∧ w1 = w) := by
  refine pm_start (lv := [some (.ref _), some (.int _), some (.int _)]) (plainFor_of_name pf5) (Nat.le_of_ble_eq_true rfl) rfl ?_
  refine pm_bipush (x := 31) dX5_digested_0 rfl ?_
  refine pm_iload_n dX5_digested_2 rfl ?_
  refine pm_imul dX5_digested_3 ?_
  refine pm_iload_n dX5_digested_4 rfl ?_
  refine pm_iadd dX5_digested_5 ?_
  refine pm_iret dX5_digested_6 rfl ?_
  exact ⟨rfl, rfl⟩

def fl {α : Type} (x : α) (n : Nat) (f : Nat → α) : Nat → α := fun j => if j < n then x else f j
theorem fl_0 {α : Type} (x : α) (f : Nat → α) : fl x 0 f = f := by funext j; simp [fl]
theorem fl_succ (x : Int32) (i : Nat) (f : Nat → Int32) : upd (fl x i f) i x = fl x (i + 1) f := by
  funext j
  unfold upd fl
  by_cases h : j = i
  · subst h; simp
  · simp only [h, if_false]
    by_cases h2 : j < i
    · rw [if_pos h2, if_pos (by omega)]
    · rw [if_neg h2, if_neg (by omega)]
theorem fl_succL (x : Int64) (i : Nat) (f : Nat → Int64) : vp_updL (fl x i f) i x = fl x (i + 1) f := by
  funext j
  unfold vp_updL fl
  by_cases h : j = i
  · subst h; simp
  · simp only [h, if_false]
    by_cases h2 : j < i
    · rw [if_pos h2, if_pos (by omega)]
    · rw [if_neg h2, if_neg (by omega)]
theorem pm_s_s (w : pm_W) (k : Nat) (f g : Nat → Int32) : pm_s (pm_s w k f) k g = pm_s w k g := by
  unfold pm_s
  ext a b
  · simp only; split <;> rfl
  · rfl
theorem pm_s_id (w : pm_W) (k : Nat) : w = pm_s w k (w.1 k) := by
  unfold pm_s
  ext a b
  · simp only; split
    next h => rw [h]
    next => rfl
  · rfl
theorem pm_sL_sL (w : pm_W) (k : Nat) (f g : Nat → Int64) : pm_sL (pm_sL w k f) k g = pm_sL w k g := by
  unfold pm_sL
  ext a b
  · rfl
  · simp only; split <;> rfl
theorem pm_sL_id (w : pm_W) (k : Nat) : w = pm_sL w k (w.2 k) := by
  unfold pm_sL
  ext a b
  · rfl
  · simp only; split
    next h => rw [h]
    next => rfl
theorem c_J7_fill_53178 {L : pm_L} {k n : Nat} (hk : L.1 k = (10, n)) (hn : n < 2 ^ 31) (w : pm_W) (x : Int32) : pm_C L MJ7_fill_53178 [.ref k, .int x] w (pm_qv fun w1 => w1 = pm_s w k (fl x n (w.1 k))) := by
  have loop : ∀ i, i ≤ n → ∀ w1, w1 = pm_s w k (fl x i (w.1 k)) → pm_R L MJ7_fill_53178 5 [some (.ref k), some (.int x), some (.int (nI i)), some (.int (nI n))] [] w1 (pm_qv fun w1 => w1 = pm_s w k (fl x n (w.1 k))) := by
    refine up_loop n (fun i hi ih w1 hw => ?_)
    refine pm_iload_n dJ7_fill_53178_5 rfl ?_
    refine pm_iload_n dJ7_fill_53178_6 rfl ?_
    refine pm_icmp_ge (tgt := 20) dJ7_fill_53178_7 (by decide) (fun c7 => ?_) (fun c7 => ?_)
    · refine pm_vret dJ7_fill_53178_20 rfl ?_
      rw [nI_leI (by omega) (by omega)] at c7
      have : i = n := by omega
      subst this
      exact hw
    · have hlt : i < n := by
        rw [nI_leI (by omega) (by omega)] at c7
        omega
      refine pm_aload_n dJ7_fill_53178_10 rfl ?_
      refine pm_iload_n dJ7_fill_53178_11 rfl ?_
      refine pm_iload_n dJ7_fill_53178_12 rfl ?_
      refine pm_iastN (by first | assumption | rfl) (by omega) (by first | decide | omega) dJ7_fill_53178_13 ?_
      refine pm_iinc (y := _ + 1) (lv' := [some (.ref _), some (.int _), some (.int _), some (.int _)]) dJ7_fill_53178_14 rfl rfl (by decide) rfl ?_
      refine pm_goto (tgt := 5) dJ7_fill_53178_17 (by decide) ?_
      rw [nI_1]
      refine ih hlt _ ?_
      subst hw
      rw [pm_s_at, pm_s_s, fl_succ]
  refine pm_start (lv := [some (.ref _), some (.int _), none, none]) (plainFor_of_name pf7) (Nat.le_of_ble_eq_true rfl) rfl ?_
  refine pm_iconst (x := 0) dJ7_fill_53178_0 rfl ?_
  refine pm_istore_n (lv' := [some (.ref _), some (.int _), some (.int _), none]) dJ7_fill_53178_1 (by decide) rfl ?_
  refine pm_aload_n dJ7_fill_53178_2 rfl ?_
  refine pm_alenI (by first | assumption | rfl) dJ7_fill_53178_3 ?_
  refine pm_istore_n (lv' := [some (.ref _), some (.int _), some (.int _), some (.int _)]) dJ7_fill_53178_4 (by decide) rfl ?_
  exact loop 0 (Nat.zero_le _) w (by rw [fl_0]; exact pm_s_id w k)

theorem c_J7_fill_d0a16 {L : pm_L} {k n : Nat} (hk : L.1 k = (12, n)) (hn : n < 2 ^ 31) (w : pm_W) (x : Int64) : pm_C L MJ7_fill_d0a16 [.ref k, .long x] w (pm_qv fun w1 => w1 = pm_sL w k (fl x n (w.2 k))) := by
  have loop : ∀ i, i ≤ n → ∀ w1, w1 = pm_sL w k (fl x i (w.2 k)) → pm_R L MJ7_fill_d0a16 6 [some (.ref k), some (.long x), none, some (.int (nI i)), some (.int (nI n))] [] w1 (pm_qv fun w1 => w1 = pm_sL w k (fl x n (w.2 k))) := by
    refine up_loop n (fun i hi ih w1 hw => ?_)
    refine pm_iload_n dJ7_fill_d0a16_6 rfl ?_
    refine pm_iload dJ7_fill_d0a16_7 rfl ?_
    refine pm_icmp_ge (tgt := 22) dJ7_fill_d0a16_9 (by decide) (fun c9 => ?_) (fun c9 => ?_)
    · refine pm_vret dJ7_fill_d0a16_22 rfl ?_
      rw [nI_leI (by omega) (by omega)] at c9
      have : i = n := by omega
      subst this
      exact hw
    · have hlt : i < n := by
        rw [nI_leI (by omega) (by omega)] at c9
        omega
      refine pm_aload_n dJ7_fill_d0a16_12 rfl ?_
      refine pm_iload_n dJ7_fill_d0a16_13 rfl ?_
      refine pm_lload_n dJ7_fill_d0a16_14 rfl ?_
      refine pm_lastN (by first | assumption | rfl) (by omega) (by first | decide | omega) dJ7_fill_d0a16_15 ?_
      refine pm_iinc (y := _ + 1) (lv' := [some (.ref _), some (.long _), none, some (.int _), some (.int _)]) dJ7_fill_d0a16_16 rfl rfl (by decide) rfl ?_
      refine pm_goto (tgt := 6) dJ7_fill_d0a16_19 (by decide) ?_
      rw [nI_1]
      refine ih hlt _ ?_
      subst hw
      rw [pm_sL_at, pm_sL_sL, fl_succL]
  refine pm_start (lv := [some (.ref _), some (.long _), none, none, none]) (plainFor_of_name pf7) (Nat.le_of_ble_eq_true rfl) rfl ?_
  refine pm_iconst (x := 0) dJ7_fill_d0a16_0 rfl ?_
  refine pm_istore_n (lv' := [some (.ref _), some (.long _), none, some (.int _), none]) dJ7_fill_d0a16_1 (by decide) rfl ?_
  refine pm_aload_n dJ7_fill_d0a16_2 rfl ?_
  refine pm_alenL (by first | assumption | rfl) dJ7_fill_d0a16_3 ?_
  refine pm_istore (lv' := [some (.ref _), some (.long _), none, some (.int _), some (.int _)]) dJ7_fill_d0a16_4 (by decide) rfl ?_
  exact loop 0 (Nat.zero_le _) w (by rw [fl_0]; exact pm_sL_id w k)
end
section
/-- an entry of the room or of the line: block, asker, fresh -/
abbrev ab_E : Type := Int32 × Nat × Int32
def ab_cnt (l : List ab_E) (p : Nat) : Nat := l.countP (fun e => e.2.1 == p)
def ab_enc (i n : Nat) : Int32 := if i < n then nI i else -1
def ab_fi (l : List ab_E) (x : Int32) : Nat := l.findIdx (fun e => e.1 == x)
/-- a Held at the cell k, with rows of n -/
def hd_ok (L : pm_L) (k n : Nat) : Prop := L.1 k = (2, 5) ∧ L.2 k 0 = some (k + 2) ∧ L.2 k 1 = some (k + 3) ∧ L.2 k 2 = some (k + 4) ∧ L.2 k 3 = some (k + 1) ∧ L.1 (k + 1) = (10, 4) ∧ L.1 (k + 2) = (10, n) ∧ L.1 (k + 3) = (10, n) ∧ L.1 (k + 4) = (10, n)
/-- it holds the entries l -/
def hd_R (w : pm_W) (k : Nat) (l : List ab_E) : Prop := w.1 k 4 = nI l.length ∧ (∀ (i : Nat) (e : ab_E), l[i]? = some e → w.1 (k + 2) i = e.1 ∧ w.1 (k + 3) i = nI e.2.1 ∧ w.1 (k + 4) i = e.2.2) ∧ ∀ p, p < 4 → w.1 (k + 1) p = nI (ab_cnt l p)
theorem hd_R_cong {w w' : pm_W} {k : Nat} {l : List ab_E} (h : hd_R w k l) (e : ∀ a, k ≤ a → a < k + 5 → w'.1 a = w.1 a) : hd_R w' k l := by
  obtain ⟨h1, h2, h3⟩ := h
  exact ⟨by rw [e k (by omega) (by omega)]; exact h1, fun i x he => by rw [e (k + 2) (by omega) (by omega), e (k + 3) (by omega) (by omega), e (k + 4) (by omega) (by omega)]; exact h2 i x he, fun p hp => by rw [e (k + 1) (by omega) (by omega)]; exact h3 p hp⟩
/-- nothing but the cells from lo to hi is changed, and no long -/
def fr_out (w w1 : pm_W) (lo hi : Nat) : Prop := (∀ a, (a < lo ∨ hi ≤ a) → w1.1 a = w.1 a) ∧ w1.2 = w.2
theorem fr_rf (w : pm_W) (lo hi : Nat) : fr_out w w lo hi := ⟨fun _ _ => rfl, rfl⟩
theorem fr_tr {w w1 w2 : pm_W} {lo hi : Nat} (h1 : fr_out w w1 lo hi) (h2 : fr_out w1 w2 lo hi) : fr_out w w2 lo hi := ⟨fun a h => (h2.1 a h).trans (h1.1 a h), h2.2.trans h1.2⟩
theorem fr_wd {w w1 : pm_W} {lo hi lo' hi' : Nat} (h : fr_out w w1 lo hi) (h1 : lo' ≤ lo) (h2 : hi ≤ hi') : fr_out w w1 lo' hi' := ⟨fun a q => h.1 a (by omega), h.2⟩
theorem fr_s {w : pm_W} {lo hi k : Nat} {f : Nat → Int32} (h1 : lo ≤ k) (h2 : k < hi) : fr_out w (pm_s w k f) lo hi := ⟨fun a q => pm_s_ne (by omega), rfl⟩
theorem fr_st {w w1 : pm_W} {lo hi k : Nat} {f : Nat → Int32} (h : fr_out w w1 lo hi) (h1 : lo ≤ k) (h2 : k < hi) : fr_out w (pm_s w1 k f) lo hi := fr_tr h (fr_s h1 h2)
theorem cnt_nil (p : Nat) : ab_cnt [] p = 0 := rfl
theorem cnt_add (l : List ab_E) (e : ab_E) (p : Nat) : ab_cnt (l ++ [e]) p = ab_cnt l p + if e.2.1 = p then 1 else 0 := by
  unfold ab_cnt
  rw [List.countP_append, List.countP_singleton]
  simp
theorem cnt_rem {l : List ab_E} {i : Nat} {e : ab_E} (h : l[i]? = some e) (p : Nat) : ab_cnt (l.eraseIdx i) p + (if e.2.1 = p then 1 else 0) = ab_cnt l p := by
  unfold ab_cnt
  have hl : i < l.length := (List.getElem?_eq_some_iff.mp h).1
  have e1 : l = l.take i ++ e :: l.drop (i + 1) := by
    have : l[i] = e := (List.getElem?_eq_some_iff.mp h).2
    rw [← this, List.getElem_cons_drop, List.take_append_drop]
  rw [List.eraseIdx_eq_take_drop_succ, List.countP_append]
  conv => rhs; rw [e1, List.countP_append, List.countP_cons]
  simp only [beq_iff_eq]
  omega
theorem cnt_le (l : List ab_E) (p : Nat) : ab_cnt l p ≤ l.length := List.countP_le_length
/-- the nearest to the arm, of two the lesser -/
def ab_nr (l : List ab_E) (arm : Int32) : Nat → Option Nat
  | 0 => none
  | n + 1 => match ab_nr l arm n with
    | none => some n
    | some k => if ab_abs ((l.getD n (0, 0, 0)).1 - arm) < ab_abs ((l.getD k (0, 0, 0)).1 - arm) ∨ (ab_abs ((l.getD n (0, 0, 0)).1 - arm) = ab_abs ((l.getD k (0, 0, 0)).1 - arm) ∧ (l.getD n (0, 0, 0)).1 < (l.getD k (0, 0, 0)).1) then some n else some k
theorem ab_nr_lt {l : List ab_E} {arm : Int32} : ∀ {n k : Nat}, ab_nr l arm n = some k → k < n
  | 0, k, h => by cases h
  | n + 1, k, h => by
    unfold ab_nr at h
    split at h
    next => cases h; omega
    next j hj =>
      have := ab_nr_lt hj
      split at h <;> (cases h; omega)
theorem ab_nr_none {l : List ab_E} {arm : Int32} : ∀ {n : Nat}, ab_nr l arm n = none → n = 0
  | 0, _ => rfl
  | n + 1, h => by
    unfold ab_nr at h
    split at h
    next => cases h
    next j hj => split at h <;> cases h
def ab_eo : Option Nat → Int32
  | none => -1
  | some k => nI k

theorem c_X2_find {L : pm_L} {k n : Nat} (hk : hd_ok L k n) (hn : n ≤ 16) {w : pm_W} {l : List ab_E} (hR : hd_R w k l) (hl : l.length ≤ n) (x : Int32) : pm_C L MX2_find [.ref k, .int x] w (pm_qi fun r w1 => r = ab_enc (ab_fi l x) l.length ∧ w1 = w) := by
  obtain ⟨e1, e2, e3, e4, e5, e6, e7, e8, e9⟩ := hk
  obtain ⟨h1, h2, h3⟩ := hR
  have loop : ∀ i, i ≤ l.length → (∀ (j : Nat) (e : ab_E), j < i → l[j]? = some e → ¬ e.1 = x) → pm_R L MX2_find 2 [some (.ref k), some (.int x), some (.int (nI i))] [] w (pm_qi fun r w1 => r = ab_enc (ab_fi l x) l.length ∧ w1 = w) := by
    refine up_loop l.length (fun i hi ih hno => ?_)
    refine pm_iload_n dX2_find_2 rfl ?_
    refine pm_aload_n dX2_find_3 rfl ?_
    refine pm_getI (ci := 2) (j := 4) (n := 5) (by first | assumption | rfl) (by decide) (by decide) rfl fl_RX2_15 rfl dX2_find_4 ?_
    rw [h1]
    refine pm_icmp_ge (tgt := 28) dX2_find_7 (by decide) (fun c7 => ?_) (fun c7 => ?_)
    · refine pm_iconst (x := -1) dX2_find_28 rfl ?_
      refine pm_iret dX2_find_29 rfl ?_
      rw [nI_leI (by omega) (by omega)] at c7
      refine ⟨?_, rfl⟩
      rw [ab_enc, if_neg]
      intro hlt
      have := List.findIdx_getElem (w := hlt)
      simp at this
      exact hno _ _ (by omega) (List.getElem?_eq_getElem hlt) this
    · have hlt : i < l.length := by
        rw [nI_leI (by omega) (by omega)] at c7
        omega
      refine pm_aload_n dX2_find_10 rfl ?_
      refine pm_getR (ci := 2) (j := 0) (n := 5) (by first | assumption | rfl) (by decide) (by decide) rfl fl_RX2_19 rfl (by first | assumption | rfl) dX2_find_11 ?_
      refine pm_iload_n dX2_find_14 rfl ?_
      refine pm_ialdN (by first | assumption | rfl) (by omega) (by first | decide | omega) dX2_find_15 ?_
      rw [(h2 i _ (List.getElem?_eq_getElem hlt)).1]
      refine pm_iload_n dX2_find_16 rfl ?_
      refine pm_icmp_ne (tgt := 22) dX2_find_17 (by decide) (fun c17 => ?_) (fun c17 => ?_)
      · refine pm_iinc (y := _ + 1) (lv' := [some (.ref _), some (.int _), some (.int _)]) dX2_find_22 rfl rfl (by decide) rfl ?_
        refine pm_goto (tgt := 2) dX2_find_25 (by decide) ?_
        rw [nI_1]
        refine ih hlt (fun j e hj he => ?_)
        by_cases hji : j = i
        · subst hji
          rw [List.getElem?_eq_getElem hlt] at he
          cases he
          exact c17
        · exact hno j e (by omega) he
      · refine pm_iload_n dX2_find_20 rfl ?_
        refine pm_iret dX2_find_21 rfl ?_
        refine ⟨?_, rfl⟩
        have : ab_fi l x = i := by
          unfold ab_fi
          rw [List.findIdx_eq hlt]
          refine ⟨by simpa using c17, fun j hj => ?_⟩
          have := hno j _ hj (List.getElem?_eq_getElem (by omega))
          simpa using this
        rw [this, ab_enc, if_pos hlt]
  refine pm_start (lv := [some (.ref _), some (.int _), none]) (plainFor_of_name pf2) (Nat.le_of_ble_eq_true rfl) rfl ?_
  refine pm_iconst (x := 0) dX2_find_0 rfl ?_
  refine pm_istore_n (lv' := [some (.ref _), some (.int _), some (.int _)]) dX2_find_1 (by decide) rfl ?_
  exact loop 0 (Nat.zero_le _) (fun j e hj => absurd hj (by omega))

set_option maxRecDepth 4000 in
theorem c_X2_hasPlace {L : pm_L} {k n : Nat} (hk : hd_ok L k n) (hn : n ≤ 16) {w : pm_W} {l : List ab_E} (hR : hd_R w k l) (hl : l.length ≤ n) : pm_C L MX2_hasPlace [.ref k] w (pm_qi fun r w1 => r = pm_z (decide (l.length < n)) ∧ w1 = w) := by
  obtain ⟨e1, e2, e3, e4, e5, e6, e7, e8, e9⟩ := hk
  obtain ⟨h1, h2, h3⟩ := hR
  refine pm_start (lv := [some (.ref _)]) (plainFor_of_name pf2) (Nat.le_of_ble_eq_true rfl) rfl ?_
  refine pm_aload_n dX2_hasPlace_0 rfl ?_
  refine pm_getI (ci := 2) (j := 4) (n := 5) (by first | assumption | rfl) (by decide) (by decide) rfl fl_RX2_15 rfl dX2_hasPlace_1 ?_
  refine pm_aload_n dX2_hasPlace_4 rfl ?_
  refine pm_getR (ci := 2) (j := 0) (n := 5) (by first | assumption | rfl) (by decide) (by decide) rfl fl_RX2_19 rfl (by first | assumption | rfl) dX2_hasPlace_5 ?_
  refine pm_alenI (by first | assumption | rfl) dX2_hasPlace_8 ?_
  rw [h1]
  refine pm_icmp_ge (tgt := 16) dX2_hasPlace_9 (by decide) (fun c9 => ?_) (fun c9 => ?_)
  · refine pm_iconst (x := 0) dX2_hasPlace_16 rfl ?_
    refine pm_zret dX2_hasPlace_17 rfl (by first | exact Or.inl rfl | exact Or.inr rfl | assumption) ?_
    rw [show Int32.ofNat n = nI n from rfl, nI_leI (by omega) (by omega)] at c9
    exact ⟨by rw [decide_eq_false (by omega)]; rfl, rfl⟩
  · refine pm_iconst (x := 1) dX2_hasPlace_12 rfl ?_
    refine pm_goto (tgt := 17) dX2_hasPlace_13 (by decide) ?_
    refine pm_zret dX2_hasPlace_17 rfl (by first | exact Or.inl rfl | exact Or.inr rfl | assumption) ?_
    rw [show Int32.ofNat n = nI n from rfl, nI_leI (by omega) (by omega)] at c9
    exact ⟨by rw [decide_eq_true (by omega)]; rfl, rfl⟩

set_option maxRecDepth 4000 in
theorem c_X2_empty {L : pm_L} {k n : Nat} (hk : hd_ok L k n) (w : pm_W) : pm_C L MX2_empty [.ref k] w (pm_qv fun w1 => hd_R w1 k [] ∧ fr_out w w1 k (k + 5)) := by
  obtain ⟨e1, e2, e3, e4, e5, e6, e7, e8, e9⟩ := hk
  refine pm_start (lv := [some (.ref _)]) (plainFor_of_name pf2) (Nat.le_of_ble_eq_true rfl) rfl ?_
  refine pm_aload_n dX2_empty_0 rfl ?_
  refine pm_iconst (x := 0) dX2_empty_1 rfl ?_
  refine pm_putI (ci := 2) (j := 4) (n := 5) (by first | assumption | rfl) (by decide) (by decide) rfl fl_RX2_15 rfl rfl dX2_empty_2 ?_
  refine pm_aload_n dX2_empty_5 rfl ?_
  refine pm_getR (ci := 2) (j := 3) (n := 5) (by first | assumption | rfl) (by decide) (by decide) rfl fl_RX2_9 rfl (by first | assumption | rfl) dX2_empty_6 ?_
  refine pm_iconst (x := 0) dX2_empty_9 rfl ?_
  refine pm_cSv (as := [.ref _, .int _]) ml_RX2_28 (by decide) (by decide) dX2_empty_10 (c_J7_fill_53178 (n := 4) (by assumption) (by decide) _ _) (fun w1 hq => ?_)
  subst hq
  refine pm_vret dX2_empty_13 rfl ?_
  refine ⟨⟨?_, fun i e h => by simp at h, fun p hp => ?_⟩, fr_st (fr_s (by omega) (by omega)) (by omega) (by omega)⟩
  · simp [pm_s, upd, nI_0]
  · simp [pm_s, fl, hp, ab_cnt, nI_0]

set_option maxRecDepth 4000 in
theorem c_X2_add {L : pm_L} {k n : Nat} (hk : hd_ok L k n) (hn : n ≤ 16) {w : pm_W} {l : List ab_E} (hR : hd_R w k l) (hl : l.length ≤ n) (hlt : l.length < n) (b : Int32) {p : Nat} (hp : p < 4) (f : Int32) : pm_C L MX2_add [.ref k, .int b, .int (nI p), .int f] w (pm_qv fun w1 => hd_R w1 k (l ++ [(b, p, f)]) ∧ fr_out w w1 k (k + 5)) := by
  obtain ⟨e1, e2, e3, e4, e5, e6, e7, e8, e9⟩ := hk
  obtain ⟨h1, h2, h3⟩ := hR
  refine pm_start (lv := [some (.ref _), some (.int _), some (.int _), some (.int _)]) (plainFor_of_name pf2) (Nat.le_of_ble_eq_true rfl) rfl ?_
  refine pm_aload_n dX2_add_0 rfl ?_
  refine pm_getR (ci := 2) (j := 0) (n := 5) (by first | assumption | rfl) (by decide) (by decide) rfl fl_RX2_19 rfl (by first | assumption | rfl) dX2_add_1 ?_
  refine pm_aload_n dX2_add_4 rfl ?_
  refine pm_getI (ci := 2) (j := 4) (n := 5) (by first | assumption | rfl) (by decide) (by decide) rfl fl_RX2_15 rfl dX2_add_5 ?_
  rw [h1]
  refine pm_iload_n dX2_add_8 rfl ?_
  refine pm_iastN (by first | assumption | rfl) (by omega) (by first | decide | omega) dX2_add_9 ?_
  refine pm_aload_n dX2_add_10 rfl ?_
  refine pm_getR (ci := 2) (j := 1) (n := 5) (by first | assumption | rfl) (by decide) (by decide) rfl fl_RX2_22 rfl (by first | assumption | rfl) dX2_add_11 ?_
  refine pm_aload_n dX2_add_14 rfl ?_
  refine pm_getI (ci := 2) (j := 4) (n := 5) (by first | assumption | rfl) (by decide) (by decide) rfl fl_RX2_15 rfl dX2_add_15 ?_
  rw [show (pm_s w (k + 2) (upd (w.1 (k + 2)) l.length b)).1 k 4 = nI l.length by rw [pm_s_ne (by omega)]; exact h1]
  refine pm_iload_n dX2_add_18 rfl ?_
  refine pm_iastN (by first | assumption | rfl) (by omega) (by first | decide | omega) dX2_add_19 ?_
  refine pm_aload_n dX2_add_20 rfl ?_
  refine pm_getR (ci := 2) (j := 2) (n := 5) (by first | assumption | rfl) (by decide) (by decide) rfl fl_RX2_25 rfl (by first | assumption | rfl) dX2_add_21 ?_
  refine pm_aload_n dX2_add_24 rfl ?_
  refine pm_getI (ci := 2) (j := 4) (n := 5) (by first | assumption | rfl) (by decide) (by decide) rfl fl_RX2_15 rfl dX2_add_25 ?_
  rw [show (pm_s (pm_s w (k + 2) (upd (w.1 (k + 2)) l.length b)) (k + 3) (upd ((pm_s w (k + 2) (upd (w.1 (k + 2)) l.length b)).1 (k + 3)) l.length (nI p))).1 k 4 = nI l.length by rw [pm_s_ne (by omega), pm_s_ne (by omega)]; exact h1]
  refine pm_iload_n dX2_add_28 rfl ?_
  refine pm_iastN (by first | assumption | rfl) (by omega) (by first | decide | omega) dX2_add_29 ?_
  refine pm_aload_n dX2_add_30 rfl ?_
  refine pm_dup dX2_add_31 rfl ?_
  refine pm_getI (ci := 2) (j := 4) (n := 5) (by first | assumption | rfl) (by decide) (by decide) rfl fl_RX2_15 rfl dX2_add_32 ?_
  refine pm_iconst (x := 1) dX2_add_35 rfl ?_
  refine pm_iadd dX2_add_36 ?_
  refine pm_putI (ci := 2) (j := 4) (n := 5) (by first | assumption | rfl) (by decide) (by decide) rfl fl_RX2_15 rfl rfl dX2_add_37 ?_
  refine pm_aload_n dX2_add_40 rfl ?_
  refine pm_getR (ci := 2) (j := 3) (n := 5) (by first | assumption | rfl) (by decide) (by decide) rfl fl_RX2_9 rfl (by first | assumption | rfl) dX2_add_41 ?_
  refine pm_iload_n dX2_add_44 rfl ?_
  refine pm_dup2 dX2_add_45 rfl rfl ?_
  refine pm_ialdN (by first | assumption | rfl) (by omega) (by first | decide | omega) dX2_add_46 ?_
  refine pm_iconst (x := 1) dX2_add_47 rfl ?_
  refine pm_iadd dX2_add_48 ?_
  refine pm_iastN (by first | assumption | rfl) (by omega) (by first | decide | omega) dX2_add_49 ?_
  refine pm_vret dX2_add_50 rfl ?_
  refine ⟨⟨?_, fun i e he => ?_, fun q hq => ?_⟩, fr_st (fr_st (fr_st (fr_st (fr_s (by omega) (by omega)) (by omega) (by omega)) (by omega) (by omega)) (by omega) (by omega)) (by omega) (by omega)⟩
  · simp [pm_s, upd, h1, nI_1]
  · by_cases hi : i < l.length
    · rw [List.getElem?_append_left hi] at he
      obtain ⟨q1, q2, q3⟩ := h2 i e he
      have : i ≠ l.length := by omega
      simp [pm_s, upd, this, q1, q2, q3]
    · have hi2 : i = l.length := by
        have := (List.getElem?_eq_some_iff.mp he).1
        simp at this
        omega
      subst hi2
      simp at he
      subst he
      simp [pm_s, upd]
  · rw [cnt_add]
    have := h3 q hq
    by_cases hqp : p = q
    · subst hqp
      simp [pm_s, upd, this, nI_1]
    · have h9 : q ≠ p := fun e => hqp e.symm
      simp [pm_s, upd, this, hqp, h9]
end
section
def sh (f : Nat → Int32) (i j : Nat) : Nat → Int32 := fun t => if i ≤ t ∧ t < j then f (t + 1) else f t
theorem sh_0 (f : Nat → Int32) (i : Nat) : sh f i i = f := by
  funext t
  unfold sh
  rw [if_neg (by omega)]
theorem sh_succ (f : Nat → Int32) {i j : Nat} (h : i ≤ j) : upd (sh f i j) j (sh f i j (j + 1)) = sh f i (j + 1) := by
  funext t
  unfold upd sh
  by_cases ht : t = j
  · subst ht
    rw [if_pos rfl, if_neg (by omega), if_pos (by omega)]
  · rw [if_neg ht]
    by_cases h2 : i ≤ t ∧ t < j
    · rw [if_pos h2, if_pos (by omega)]
    · rw [if_neg h2, if_neg (by omega)]
theorem sh_at {f : Nat → Int32} {i j t : Nat} (h : t < j) : sh f i j t = if t < i then f t else f (t + 1) := by
  unfold sh
  by_cases h2 : t < i
  · rw [if_pos h2, if_neg (by omega)]
  · rw [if_neg h2, if_pos (by omega)]

theorem c_X2_remove {L : pm_L} {k n : Nat} (hk : hd_ok L k n) (hn : n ≤ 16) {w : pm_W} {l : List ab_E} (hR : hd_R w k l) (hl : l.length ≤ n) {i : Nat} {e : ab_E} (hi : l[i]? = some e) (he : e.2.1 < 4) : pm_C L MX2_remove [.ref k, .int (nI i)] w (pm_qv fun w1 => hd_R w1 k (l.eraseIdx i) ∧ fr_out w w1 k (k + 5)) := by
  obtain ⟨e1, e2, e3, e4, e5, e6, e7, e8, e9⟩ := hk
  obtain ⟨h1, h2, h3⟩ := hR
  have hil : i < l.length := (List.getElem?_eq_some_iff.mp hi).1
  obtain ⟨c, hc⟩ : ∃ c, c + 1 = l.length := ⟨l.length - 1, by omega⟩
  have loop : ∀ j, j ≤ c → i ≤ j → ∀ w1 : pm_W, w1.1 k 4 = nI c ∧ w1.1 (k + 1) = upd (w.1 (k + 1)) e.2.1 (w.1 (k + 1) e.2.1 - 1) ∧ w1.1 (k + 2) = sh (w.1 (k + 2)) i j ∧ w1.1 (k + 3) = sh (w.1 (k + 3)) i j ∧ w1.1 (k + 4) = sh (w.1 (k + 4)) i j ∧ fr_out w w1 k (k + 5) → pm_R L MX2_remove 27 [some (.ref k), some (.int (nI i)), some (.int (nI j))] [] w1 (pm_qv fun w1 => hd_R w1 k (l.eraseIdx i) ∧ fr_out w w1 k (k + 5)) := by
    refine up_loop c (fun j hj ih hij w1 hw => ?_)
    obtain ⟨g0, g1, g2, g3, g4, g5⟩ := hw
    refine pm_iload_n dX2_remove_27 rfl ?_
    refine pm_aload_n dX2_remove_28 rfl ?_
    refine pm_getI (ci := 2) (j := 4) (n := 5) (by first | assumption | rfl) (by decide) (by decide) rfl fl_RX2_15 rfl dX2_remove_29 ?_
    rw [g0]
    refine pm_icmp_ge (tgt := 83) dX2_remove_32 (by decide) (fun c32 => ?_) (fun c32 => ?_)
    · refine pm_vret dX2_remove_83 rfl ?_
      rw [nI_leI (by omega) (by omega)] at c32
      have hjc : j = c := by omega
      subst hjc
      refine ⟨⟨?_, fun t x hx => ?_, fun q hq => ?_⟩, g5⟩
      · rw [g0, List.length_eraseIdx, if_pos hil, ← hc]; rfl
      · have ht : t < j := by
          have := (List.getElem?_eq_some_iff.mp hx).1
          rw [List.length_eraseIdx, if_pos hil] at this
          omega
        rw [List.getElem?_eraseIdx] at hx
        rw [g2, g3, g4, sh_at ht, sh_at ht, sh_at ht]
        by_cases h9 : t < i
        · rw [if_pos h9] at hx
          simp only [if_pos h9]
          exact h2 t x hx
        · rw [if_neg h9] at hx
          simp only [if_neg h9]
          exact h2 (t + 1) x hx
      · have e0 := cnt_rem hi q
        have e00 := h3 q hq
        rw [g1]
        by_cases hqe : q = e.2.1
        · subst hqe
          rw [if_pos rfl] at e0
          rw [show upd (w.1 (k + 1)) e.2.1 (w.1 (k + 1) e.2.1 - 1) e.2.1 = _ from pk_us, e00, ← e0]
          exact nI_pred _
        · rw [if_neg (fun h => hqe h.symm)] at e0
          rw [show upd (w.1 (k + 1)) e.2.1 (w.1 (k + 1) e.2.1 - 1) q = _ from pk_un hqe, e00]
          congr 1
          omega
    · have hlt : j < c := by
        rw [nI_leI (by omega) (by omega)] at c32
        omega
      refine pm_aload_n dX2_remove_35 rfl ?_
      refine pm_getR (ci := 2) (j := 0) (n := 5) (by first | assumption | rfl) (by decide) (by decide) rfl fl_RX2_19 rfl (by first | assumption | rfl) dX2_remove_36 ?_
      refine pm_iload_n dX2_remove_39 rfl ?_
      refine pm_aload_n dX2_remove_40 rfl ?_
      refine pm_getR (ci := 2) (j := 0) (n := 5) (by first | assumption | rfl) (by decide) (by decide) rfl fl_RX2_19 rfl (by first | assumption | rfl) dX2_remove_41 ?_
      refine pm_iload_n dX2_remove_44 rfl ?_
      refine pm_iconst (x := 1) dX2_remove_45 rfl ?_
      refine pm_iadd dX2_remove_46 ?_
      rw [nI_1]
      refine pm_ialdN (by first | assumption | rfl) (by omega) (by first | decide | omega) dX2_remove_47 ?_
      refine pm_iastN (by first | assumption | rfl) (by omega) (by first | decide | omega) dX2_remove_48 ?_
      refine pm_aload_n dX2_remove_49 rfl ?_
      refine pm_getR (ci := 2) (j := 1) (n := 5) (by first | assumption | rfl) (by decide) (by decide) rfl fl_RX2_22 rfl (by first | assumption | rfl) dX2_remove_50 ?_
      refine pm_iload_n dX2_remove_53 rfl ?_
      refine pm_aload_n dX2_remove_54 rfl ?_
      refine pm_getR (ci := 2) (j := 1) (n := 5) (by first | assumption | rfl) (by decide) (by decide) rfl fl_RX2_22 rfl (by first | assumption | rfl) dX2_remove_55 ?_
      refine pm_iload_n dX2_remove_58 rfl ?_
      refine pm_iconst (x := 1) dX2_remove_59 rfl ?_
      refine pm_iadd dX2_remove_60 ?_
      rw [nI_1]
      refine pm_ialdN (by first | assumption | rfl) (by omega) (by first | decide | omega) dX2_remove_61 ?_
      refine pm_iastN (by first | assumption | rfl) (by omega) (by first | decide | omega) dX2_remove_62 ?_
      refine pm_aload_n dX2_remove_63 rfl ?_
      refine pm_getR (ci := 2) (j := 2) (n := 5) (by first | assumption | rfl) (by decide) (by decide) rfl fl_RX2_25 rfl (by first | assumption | rfl) dX2_remove_64 ?_
      refine pm_iload_n dX2_remove_67 rfl ?_
      refine pm_aload_n dX2_remove_68 rfl ?_
      refine pm_getR (ci := 2) (j := 2) (n := 5) (by first | assumption | rfl) (by decide) (by decide) rfl fl_RX2_25 rfl (by first | assumption | rfl) dX2_remove_69 ?_
      refine pm_iload_n dX2_remove_72 rfl ?_
      refine pm_iconst (x := 1) dX2_remove_73 rfl ?_
      refine pm_iadd dX2_remove_74 ?_
      rw [nI_1]
      refine pm_ialdN (by first | assumption | rfl) (by omega) (by first | decide | omega) dX2_remove_75 ?_
      refine pm_iastN (by first | assumption | rfl) (by omega) (by first | decide | omega) dX2_remove_76 ?_
      refine pm_iinc (y := _ + 1) (lv' := [some (.ref _), some (.int _), some (.int _)]) dX2_remove_77 rfl rfl (by decide) rfl ?_
      refine pm_goto (tgt := 27) dX2_remove_80 (by decide) ?_
      rw [nI_1]
      refine ih hlt (by omega) _ ⟨?_, ?_, ?_, ?_, ?_, ?_⟩
      · simp [pm_s, g0]
      · simp [pm_s, g1]
      · rw [← sh_succ _ hij]; simp [pm_s, g2]
      · rw [← sh_succ _ hij]; simp [pm_s, g3]
      · rw [← sh_succ _ hij]; simp [pm_s, g4]
      · exact fr_st (fr_st (fr_st g5 (by omega) (by omega)) (by omega) (by omega)) (by omega) (by omega)
  refine pm_start (lv := [some (.ref _), some (.int _), none]) (plainFor_of_name pf2) (Nat.le_of_ble_eq_true rfl) rfl ?_
  refine pm_aload_n dX2_remove_0 rfl ?_
  refine pm_getR (ci := 2) (j := 3) (n := 5) (by first | assumption | rfl) (by decide) (by decide) rfl fl_RX2_9 rfl (by first | assumption | rfl) dX2_remove_1 ?_
  refine pm_aload_n dX2_remove_4 rfl ?_
  refine pm_getR (ci := 2) (j := 1) (n := 5) (by first | assumption | rfl) (by decide) (by decide) rfl fl_RX2_22 rfl (by first | assumption | rfl) dX2_remove_5 ?_
  refine pm_iload_n dX2_remove_8 rfl ?_
  refine pm_ialdN (by first | assumption | rfl) (by omega) (by first | decide | omega) dX2_remove_9 ?_
  rw [(h2 i e hi).2.1]
  refine pm_dup2 dX2_remove_10 rfl rfl ?_
  refine pm_ialdN (by first | assumption | rfl) (by omega) (by first | decide | omega) dX2_remove_11 ?_
  refine pm_iconst (x := 1) dX2_remove_12 rfl ?_
  refine pm_isub dX2_remove_13 ?_
  refine pm_iastN (by first | assumption | rfl) (by omega) (by first | decide | omega) dX2_remove_14 ?_
  refine pm_aload_n dX2_remove_15 rfl ?_
  refine pm_dup dX2_remove_16 rfl ?_
  refine pm_getI (ci := 2) (j := 4) (n := 5) (by first | assumption | rfl) (by decide) (by decide) rfl fl_RX2_15 rfl dX2_remove_17 ?_
  refine pm_iconst (x := 1) dX2_remove_20 rfl ?_
  refine pm_isub dX2_remove_21 ?_
  refine pm_putI (ci := 2) (j := 4) (n := 5) (by first | assumption | rfl) (by decide) (by decide) rfl fl_RX2_15 rfl rfl dX2_remove_22 ?_
  refine pm_iload_n dX2_remove_25 rfl ?_
  refine pm_istore_n (lv' := [some (.ref _), some (.int _), some (.int _)]) dX2_remove_26 (by decide) rfl ?_
  refine loop i (by omega) (Nat.le_refl _) _ ⟨?_, ?_, ?_, ?_, ?_, ?_⟩
  · simp [pm_s, upd, h1, ← hc, nI_pred]
  · simp [pm_s]
  · rw [sh_0]; simp [pm_s]
  · rw [sh_0]; simp [pm_s]
  · rw [sh_0]; simp [pm_s]
  · exact fr_st (fr_s (by omega) (by omega)) (by omega) (by omega)

def pm_le : List (Option Value) → List (Option Value) → Prop
  | [], _ => True
  | none :: a, _ :: b => pm_le a b
  | some v :: a, x :: b => x = some v ∧ pm_le a b
  | _ :: _, [] => False
theorem pm_le_0 {b : List (Option Value)} : pm_le [] b := trivial
theorem pm_le_n {x : Option Value} {a b : List (Option Value)} (h : pm_le a b) : pm_le (none :: a) (x :: b) := h
theorem pm_le_k {v : Value} {x : Option Value} {a b : List (Option Value)} (e : x = some v) (h : pm_le a b) : pm_le (some v :: a) (x :: b) := ⟨e, h⟩
theorem pm_le_at : ∀ {a b : List (Option Value)}, pm_le a b → ∀ (i : Nat) (v : Value), a[i]? = some (some v) → b[i]? = some (some v)
  | [], _, _, i, v, hi => by simp at hi
  | none :: a, x :: b, h, i, v, hi => by
    cases i with
    | zero => simp at hi
    | succ i => simpa using pm_le_at (a := a) (b := b) h i v (by simpa using hi)
  | some u :: a, x :: b, h, i, v, hi => by
    obtain ⟨h1, h2⟩ := h
    cases i with
    | zero => simp at hi; subst hi; subst h1; rfl
    | succ i => simpa using pm_le_at h2 i v (by simpa using hi)
  | none :: a, [], h, i, v, hi => h.elim
  | some u :: a, [], h, i, v, hi => h.elim
/-- some locals forgotten -/
theorem pm_fg {L : pm_L} {M : pm_M} {pc : Nat} {lv lv' : List (Option Value)} {st : List Value} {w : pm_W} {Q : Option Value → pm_W → Prop} (hf : pm_le lv' lv) (h : pm_R L M pc lv' st w Q) : pm_R L M pc lv st w Q := pm_forget (pm_le_at hf) h
def ab_ls (l : List ab_E) (arm : Int32) : Option Nat → Int32
  | none => 64
  | some k => ab_abs ((l.getD k (0, 0, 0)).1 - arm)

theorem nI_ne_m1 {n : Nat} (h : n < 2 ^ 31) : ¬ nI n = -1 := by
  intro e
  have h1 := congrArg Int32.toInt e
  rw [nI_toInt h] at h1
  have h2 : (-1 : Int32).toInt = -1 := by decide
  omega
theorem c_X2_nearest {L : pm_L} {k n : Nat} (hk : hd_ok L k n) (hn : n ≤ 16) {w : pm_W} {l : List ab_E} (hR : hd_R w k l) (hl : l.length ≤ n) (arm : Int32) (hb : ∀ e ∈ l, ab_abs (e.1 - arm) < 64) : pm_C L MX2_nearest [.ref k, .int arm] w (pm_qi fun r w1 => r = ab_eo (ab_nr l arm l.length) ∧ w1 = w) := by
  obtain ⟨e1, e2, e3, e4, e5, e6, e7, e8, e9⟩ := hk
  obtain ⟨h1, h2, h3⟩ := hR
  have loop : ∀ i, i ≤ l.length → pm_R L MX2_nearest 8 [some (.ref k), some (.int arm), some (.int (ab_eo (ab_nr l arm i))), some (.int (ab_ls l arm (ab_nr l arm i))), some (.int (nI i)), none] [] w (pm_qi fun r w1 => r = ab_eo (ab_nr l arm l.length) ∧ w1 = w) := by
    refine up_loop l.length (fun i hi ih => ?_)
    cases hnr : ab_nr l arm i with
    | none =>
      simp only [ab_eo, ab_ls]
      refine pm_iload dX2_nearest_8 rfl ?_
      refine pm_aload_n dX2_nearest_10 rfl ?_
      refine pm_getI (ci := 2) (j := 4) (n := 5) (by first | assumption | rfl) (by decide) (by decide) rfl fl_RX2_15 rfl dX2_nearest_11 ?_
      rw [h1]
      refine pm_icmp_ge (tgt := 76) dX2_nearest_14 (by decide) (fun c14 => ?_) (fun c14 => ?_)
      · refine pm_iload_n dX2_nearest_76 rfl ?_
        refine pm_iret dX2_nearest_77 rfl ?_
        rw [nI_leI (by omega) (by omega)] at c14
        have : i = l.length := by omega
        subst this
        rw [hnr]
        exact ⟨rfl, rfl⟩
      · have hlt : i < l.length := by
          rw [nI_leI (by omega) (by omega)] at c14
          omega
        have hgi : l.getD i (0, 0, 0) = l[i] := by rw [List.getD_eq_getElem?_getD, List.getElem?_eq_getElem hlt]; rfl
        have hbi : w.1 (k + 2) i = (l.getD i (0, 0, 0)).1 := by rw [hgi]; exact (h2 i _ (List.getElem?_eq_getElem hlt)).1
        have hfar := hb _ (List.getElem_mem hlt)
        rw [← hgi] at hfar
        refine pm_aload_n dX2_nearest_17 rfl ?_
        refine pm_getR (ci := 2) (j := 0) (n := 5) (by first | assumption | rfl) (by decide) (by decide) rfl fl_RX2_19 rfl (by first | assumption | rfl) dX2_nearest_18 ?_
        refine pm_iload dX2_nearest_21 rfl ?_
        refine pm_ialdN (by first | assumption | rfl) (by omega) (by first | decide | omega) dX2_nearest_23 ?_
        rw [hbi]
        refine pm_iload_n dX2_nearest_24 rfl ?_
        refine pm_isub dX2_nearest_25 ?_
        refine pm_cSi (as := [.int _]) ml_RX2_40 (by decide) (by decide) dX2_nearest_26 (c_J9_abs_0f7a4 L _ _) (fun x1 w1 hq => ?_)
        obtain ⟨rfl, rfl⟩ := hq
        refine pm_istore (lv' := [some (.ref _), some (.int _), some (.int _), some (.int _), some (.int _), some (.int _)]) dX2_nearest_29 (by decide) rfl ?_
        refine pm_iload dX2_nearest_31 rfl ?_
        refine pm_iload_n dX2_nearest_33 rfl ?_
        refine pm_icmp_lt (tgt := 64) dX2_nearest_34 (by decide) (fun c34 => ?_) (fun c34 => absurd hfar c34)
        refine pm_iload dX2_nearest_64 rfl ?_
        refine pm_istore_n (lv' := [some (.ref _), some (.int _), some (.int _), some (.int _), some (.int _), some (.int _)]) dX2_nearest_66 (by decide) rfl ?_
        refine pm_iload dX2_nearest_67 rfl ?_
        refine pm_istore_n (lv' := [some (.ref _), some (.int _), some (.int _), some (.int _), some (.int _), some (.int _)]) dX2_nearest_69 (by decide) rfl ?_
        refine pm_iinc (y := _ + 1) (lv' := [some (.ref _), some (.int _), some (.int _), some (.int _), some (.int _), some (.int _)]) dX2_nearest_70 rfl rfl (by decide) rfl ?_
        refine pm_goto (tgt := 8) dX2_nearest_73 (by decide) ?_
        refine pm_fg (lv' := [some (.ref _), some (.int _), some (.int _), some (.int _), some (.int _), none]) (pm_le_k rfl (pm_le_k rfl (pm_le_k rfl (pm_le_k rfl (pm_le_k rfl (pm_le_n pm_le_0)))))) ?_
        rw [nI_1]
        have h9 := ih hlt
        rw [show ab_nr l arm (i + 1) = some i by simp only [ab_nr, hnr]] at h9
        exact h9
    | some k0 =>
      simp only [ab_eo, ab_ls]
      refine pm_iload dX2_nearest_8 rfl ?_
      refine pm_aload_n dX2_nearest_10 rfl ?_
      refine pm_getI (ci := 2) (j := 4) (n := 5) (by first | assumption | rfl) (by decide) (by decide) rfl fl_RX2_15 rfl dX2_nearest_11 ?_
      rw [h1]
      refine pm_icmp_ge (tgt := 76) dX2_nearest_14 (by decide) (fun c14 => ?_) (fun c14 => ?_)
      · refine pm_iload_n dX2_nearest_76 rfl ?_
        refine pm_iret dX2_nearest_77 rfl ?_
        rw [nI_leI (by omega) (by omega)] at c14
        have : i = l.length := by omega
        subst this
        rw [hnr]
        exact ⟨rfl, rfl⟩
      · have hlt : i < l.length := by
          rw [nI_leI (by omega) (by omega)] at c14
          omega
        have hgi : l.getD i (0, 0, 0) = l[i] := by rw [List.getD_eq_getElem?_getD, List.getElem?_eq_getElem hlt]; rfl
        have hbi : w.1 (k + 2) i = (l.getD i (0, 0, 0)).1 := by rw [hgi]; exact (h2 i _ (List.getElem?_eq_getElem hlt)).1
        have hfar := hb _ (List.getElem_mem hlt)
        rw [← hgi] at hfar
        have hk0 := ab_nr_lt hnr
        have hgk : l.getD k0 (0, 0, 0) = l[k0] := by rw [List.getD_eq_getElem?_getD, List.getElem?_eq_getElem (by omega)]; rfl
        have hbk : w.1 (k + 2) k0 = (l.getD k0 (0, 0, 0)).1 := by rw [hgk]; exact (h2 k0 _ (List.getElem?_eq_getElem (by omega))).1
        refine pm_aload_n dX2_nearest_17 rfl ?_
        refine pm_getR (ci := 2) (j := 0) (n := 5) (by first | assumption | rfl) (by decide) (by decide) rfl fl_RX2_19 rfl (by first | assumption | rfl) dX2_nearest_18 ?_
        refine pm_iload dX2_nearest_21 rfl ?_
        refine pm_ialdN (by first | assumption | rfl) (by omega) (by first | decide | omega) dX2_nearest_23 ?_
        rw [hbi]
        refine pm_iload_n dX2_nearest_24 rfl ?_
        refine pm_isub dX2_nearest_25 ?_
        refine pm_cSi (as := [.int _]) ml_RX2_40 (by decide) (by decide) dX2_nearest_26 (c_J9_abs_0f7a4 L _ _) (fun x1 w1 hq => ?_)
        obtain ⟨rfl, rfl⟩ := hq
        refine pm_istore (lv' := [some (.ref _), some (.int _), some (.int _), some (.int _), some (.int _), some (.int _)]) dX2_nearest_29 (by decide) rfl ?_
        refine pm_iload dX2_nearest_31 rfl ?_
        refine pm_iload_n dX2_nearest_33 rfl ?_
        refine pm_icmp_lt (tgt := 64) dX2_nearest_34 (by decide) (fun c34 => ?_) (fun c34 => ?_)
        · refine pm_iload dX2_nearest_64 rfl ?_
          refine pm_istore_n (lv' := [some (.ref _), some (.int _), some (.int _), some (.int _), some (.int _), some (.int _)]) dX2_nearest_66 (by decide) rfl ?_
          refine pm_iload dX2_nearest_67 rfl ?_
          refine pm_istore_n (lv' := [some (.ref _), some (.int _), some (.int _), some (.int _), some (.int _), some (.int _)]) dX2_nearest_69 (by decide) rfl ?_
          refine pm_iinc (y := _ + 1) (lv' := [some (.ref _), some (.int _), some (.int _), some (.int _), some (.int _), some (.int _)]) dX2_nearest_70 rfl rfl (by decide) rfl ?_
          refine pm_goto (tgt := 8) dX2_nearest_73 (by decide) ?_
          refine pm_fg (lv' := [some (.ref _), some (.int _), some (.int _), some (.int _), some (.int _), none]) (pm_le_k rfl (pm_le_k rfl (pm_le_k rfl (pm_le_k rfl (pm_le_k rfl (pm_le_n pm_le_0)))))) ?_
          rw [nI_1]
          have h9 := ih hlt
          rw [show ab_nr l arm (i + 1) = some i by simp only [ab_nr, hnr]; exact if_pos (Or.inl c34)] at h9
          exact h9
        · refine pm_iload dX2_nearest_37 rfl ?_
          refine pm_iload_n dX2_nearest_39 rfl ?_
          refine pm_icmp_ne (tgt := 70) dX2_nearest_40 (by decide) (fun c40 => ?_) (fun c40 => ?_)
          · refine pm_iinc (y := _ + 1) (lv' := [some (.ref _), some (.int _), some (.int _), some (.int _), some (.int _), some (.int _)]) dX2_nearest_70 rfl rfl (by decide) rfl ?_
            refine pm_goto (tgt := 8) dX2_nearest_73 (by decide) ?_
            refine pm_fg (lv' := [some (.ref _), some (.int _), some (.int _), some (.int _), some (.int _), none]) (pm_le_k rfl (pm_le_k rfl (pm_le_k rfl (pm_le_k rfl (pm_le_k rfl (pm_le_n pm_le_0)))))) ?_
            rw [nI_1]
            have h9 := ih hlt
            rw [show ab_nr l arm (i + 1) = some k0 by simp only [ab_nr, hnr]; exact if_neg (fun h => h.elim c34 (fun h => c40 h.1))] at h9
            exact h9
          · refine pm_iload_n dX2_nearest_43 rfl ?_
            refine pm_iconst (x := -1) dX2_nearest_44 rfl ?_
            refine pm_icmp_eq (tgt := 70) dX2_nearest_45 (by decide) (fun c45 => absurd c45 (nI_ne_m1 (by omega))) (fun c45 => ?_)
            refine pm_aload_n dX2_nearest_48 rfl ?_
            refine pm_getR (ci := 2) (j := 0) (n := 5) (by first | assumption | rfl) (by decide) (by decide) rfl fl_RX2_19 rfl (by first | assumption | rfl) dX2_nearest_49 ?_
            refine pm_iload dX2_nearest_52 rfl ?_
            refine pm_ialdN (by first | assumption | rfl) (by omega) (by first | decide | omega) dX2_nearest_54 ?_
            rw [hbi]
            refine pm_aload_n dX2_nearest_55 rfl ?_
            refine pm_getR (ci := 2) (j := 0) (n := 5) (by first | assumption | rfl) (by decide) (by decide) rfl fl_RX2_19 rfl (by first | assumption | rfl) dX2_nearest_56 ?_
            refine pm_iload_n dX2_nearest_59 rfl ?_
            refine pm_ialdN (by first | assumption | rfl) (by omega) (by first | decide | omega) dX2_nearest_60 ?_
            rw [hbk]
            refine pm_icmp_ge (tgt := 70) dX2_nearest_61 (by decide) (fun c61 => ?_) (fun c61 => ?_)
            · refine pm_iinc (y := _ + 1) (lv' := [some (.ref _), some (.int _), some (.int _), some (.int _), some (.int _), some (.int _)]) dX2_nearest_70 rfl rfl (by decide) rfl ?_
              refine pm_goto (tgt := 8) dX2_nearest_73 (by decide) ?_
              refine pm_fg (lv' := [some (.ref _), some (.int _), some (.int _), some (.int _), some (.int _), none]) (pm_le_k rfl (pm_le_k rfl (pm_le_k rfl (pm_le_k rfl (pm_le_k rfl (pm_le_n pm_le_0)))))) ?_
              rw [nI_1]
              have h9 := ih hlt
              rw [show ab_nr l arm (i + 1) = some k0 by simp only [ab_nr, hnr]; exact if_neg (fun h => h.elim c34 (fun h => Int32.not_lt.mpr c61 h.2))] at h9
              exact h9
            · refine pm_iload dX2_nearest_64 rfl ?_
              refine pm_istore_n (lv' := [some (.ref _), some (.int _), some (.int _), some (.int _), some (.int _), some (.int _)]) dX2_nearest_66 (by decide) rfl ?_
              refine pm_iload dX2_nearest_67 rfl ?_
              refine pm_istore_n (lv' := [some (.ref _), some (.int _), some (.int _), some (.int _), some (.int _), some (.int _)]) dX2_nearest_69 (by decide) rfl ?_
              refine pm_iinc (y := _ + 1) (lv' := [some (.ref _), some (.int _), some (.int _), some (.int _), some (.int _), some (.int _)]) dX2_nearest_70 rfl rfl (by decide) rfl ?_
              refine pm_goto (tgt := 8) dX2_nearest_73 (by decide) ?_
              refine pm_fg (lv' := [some (.ref _), some (.int _), some (.int _), some (.int _), some (.int _), none]) (pm_le_k rfl (pm_le_k rfl (pm_le_k rfl (pm_le_k rfl (pm_le_k rfl (pm_le_n pm_le_0)))))) ?_
              rw [nI_1]
              have h9 := ih hlt
              rw [show ab_nr l arm (i + 1) = some i by simp only [ab_nr, hnr]; exact if_pos (Or.inr ⟨c40, Int32.not_le.mp c61⟩)] at h9
              exact h9
  refine pm_start (lv := [some (.ref _), some (.int _), none, none, none, none]) (plainFor_of_name pf2) (Nat.le_of_ble_eq_true rfl) rfl ?_
  refine pm_iconst (x := -1) dX2_nearest_0 rfl ?_
  refine pm_istore_n (lv' := [some (.ref _), some (.int _), some (.int _), none, none, none]) dX2_nearest_1 (by decide) rfl ?_
  refine pm_bipush (x := 64) dX2_nearest_2 rfl ?_
  refine pm_istore_n (lv' := [some (.ref _), some (.int _), some (.int _), some (.int _), none, none]) dX2_nearest_4 (by decide) rfl ?_
  refine pm_iconst (x := 0) dX2_nearest_5 rfl ?_
  refine pm_istore (lv' := [some (.ref _), some (.int _), some (.int _), some (.int _), some (.int _), none]) dX2_nearest_6 (by decide) rfl ?_
  exact loop 0 (Nat.zero_le _)

theorem cpy_at {f g : Nat → Int32} {n i : Nat} (h : i < n) : va_cpy f g 0 0 n i = f i := by
  rw [pk_cpy_in (by omega) (by omega)]
  simp

set_option maxRecDepth 4000 in
theorem c_X2_copyFrom {L : pm_L} {k k2 n : Nat} (hk : hd_ok L k n) (hk2 : hd_ok L k2 n) (hd : k + 5 ≤ k2 ∨ k2 + 5 ≤ k) (hn : n ≤ 16) {w : pm_W} {l : List ab_E} (hR : hd_R w k2 l) (hl : l.length ≤ n) : pm_C L MX2_copyFrom [.ref k, .ref k2] w (pm_qv fun w1 => hd_R w1 k l ∧ fr_out w w1 k (k + 5)) := by
  obtain ⟨e1, e2, e3, e4, e5, e6, e7, e8, e9⟩ := hk
  obtain ⟨a1, a2, a3, a4, a5, a6, a7, a8, a9⟩ := hk2
  obtain ⟨h1, h2, h3⟩ := hR
  refine pm_start (lv := [some (.ref _), some (.ref _)]) (plainFor_of_name pf2) (Nat.le_of_ble_eq_true rfl) rfl ?_
  refine pm_aload_n dX2_copyFrom_0 rfl ?_
  refine pm_aload_n dX2_copyFrom_1 rfl ?_
  refine pm_getI (ci := 2) (j := 4) (n := 5) (by first | assumption | rfl) (by decide) (by decide) rfl fl_RX2_15 rfl dX2_copyFrom_2 ?_
  rw [h1]
  refine pm_putI (ci := 2) (j := 4) (n := 5) (by first | assumption | rfl) (by decide) (by decide) rfl fl_RX2_15 rfl rfl dX2_copyFrom_5 ?_
  refine pm_aload_n dX2_copyFrom_8 rfl ?_
  refine pm_getR (ci := 2) (j := 0) (n := 5) (by first | assumption | rfl) (by decide) (by decide) rfl fl_RX2_19 rfl (by first | assumption | rfl) dX2_copyFrom_9 ?_
  refine pm_iconst (x := 0) dX2_copyFrom_12 rfl ?_
  refine pm_aload_n dX2_copyFrom_13 rfl ?_
  refine pm_getR (ci := 2) (j := 0) (n := 5) (by first | assumption | rfl) (by decide) (by decide) rfl fl_RX2_19 rfl (by first | assumption | rfl) dX2_copyFrom_14 ?_
  refine pm_iconst (x := 0) dX2_copyFrom_17 rfl ?_
  refine pm_aload_n dX2_copyFrom_18 rfl ?_
  refine pm_getI (ci := 2) (j := 4) (n := 5) (by first | assumption | rfl) (by decide) (by decide) rfl fl_RX2_15 rfl dX2_copyFrom_19 ?_
  rw [show (pm_s w k (upd (w.1 k) 4 (nI l.length))).1 k 4 = nI l.length by rw [pm_s_at]; exact pk_us]
  refine pm_copy ml_RX2_34 ml_copy (by first | assumption | rfl) (by first | assumption | rfl) (by decide) (by decide) (nI_pos (by omega)) (by rw [nI_clamp (by omega)]; exact Nat.le_trans (Nat.le_of_eq (Nat.zero_add _)) hl) (by rw [nI_clamp (by omega)]; exact Nat.le_trans (Nat.le_of_eq (Nat.zero_add _)) hl) (by decide) (by decide) dX2_copyFrom_22 ?_
  refine pm_aload_n dX2_copyFrom_25 rfl ?_
  refine pm_getR (ci := 2) (j := 1) (n := 5) (by first | assumption | rfl) (by decide) (by decide) rfl fl_RX2_22 rfl (by first | assumption | rfl) dX2_copyFrom_26 ?_
  refine pm_iconst (x := 0) dX2_copyFrom_29 rfl ?_
  refine pm_aload_n dX2_copyFrom_30 rfl ?_
  refine pm_getR (ci := 2) (j := 1) (n := 5) (by first | assumption | rfl) (by decide) (by decide) rfl fl_RX2_22 rfl (by first | assumption | rfl) dX2_copyFrom_31 ?_
  refine pm_iconst (x := 0) dX2_copyFrom_34 rfl ?_
  refine pm_aload_n dX2_copyFrom_35 rfl ?_
  refine pm_getI (ci := 2) (j := 4) (n := 5) (by first | assumption | rfl) (by decide) (by decide) rfl fl_RX2_15 rfl dX2_copyFrom_36 ?_
  refine pm_topi (nI l.length) (by simp [pm_s, upd]) ?_
  refine pm_copy ml_RX2_34 ml_copy (by first | assumption | rfl) (by first | assumption | rfl) (by decide) (by decide) (nI_pos (by omega)) (by rw [nI_clamp (by omega)]; exact Nat.le_trans (Nat.le_of_eq (Nat.zero_add _)) hl) (by rw [nI_clamp (by omega)]; exact Nat.le_trans (Nat.le_of_eq (Nat.zero_add _)) hl) (by decide) (by decide) dX2_copyFrom_39 ?_
  refine pm_aload_n dX2_copyFrom_42 rfl ?_
  refine pm_getR (ci := 2) (j := 2) (n := 5) (by first | assumption | rfl) (by decide) (by decide) rfl fl_RX2_25 rfl (by first | assumption | rfl) dX2_copyFrom_43 ?_
  refine pm_iconst (x := 0) dX2_copyFrom_46 rfl ?_
  refine pm_aload_n dX2_copyFrom_47 rfl ?_
  refine pm_getR (ci := 2) (j := 2) (n := 5) (by first | assumption | rfl) (by decide) (by decide) rfl fl_RX2_25 rfl (by first | assumption | rfl) dX2_copyFrom_48 ?_
  refine pm_iconst (x := 0) dX2_copyFrom_51 rfl ?_
  refine pm_aload_n dX2_copyFrom_52 rfl ?_
  refine pm_getI (ci := 2) (j := 4) (n := 5) (by first | assumption | rfl) (by decide) (by decide) rfl fl_RX2_15 rfl dX2_copyFrom_53 ?_
  refine pm_topi (nI l.length) (by simp [pm_s, upd]) ?_
  refine pm_copy ml_RX2_34 ml_copy (by first | assumption | rfl) (by first | assumption | rfl) (by decide) (by decide) (nI_pos (by omega)) (by rw [nI_clamp (by omega)]; exact Nat.le_trans (Nat.le_of_eq (Nat.zero_add _)) hl) (by rw [nI_clamp (by omega)]; exact Nat.le_trans (Nat.le_of_eq (Nat.zero_add _)) hl) (by decide) (by decide) dX2_copyFrom_56 ?_
  refine pm_aload_n dX2_copyFrom_59 rfl ?_
  refine pm_getR (ci := 2) (j := 3) (n := 5) (by first | assumption | rfl) (by decide) (by decide) rfl fl_RX2_9 rfl (by first | assumption | rfl) dX2_copyFrom_60 ?_
  refine pm_iconst (x := 0) dX2_copyFrom_63 rfl ?_
  refine pm_aload_n dX2_copyFrom_64 rfl ?_
  refine pm_getR (ci := 2) (j := 3) (n := 5) (by first | assumption | rfl) (by decide) (by decide) rfl fl_RX2_9 rfl (by first | assumption | rfl) dX2_copyFrom_65 ?_
  refine pm_iconst (x := 0) dX2_copyFrom_68 rfl ?_
  refine pm_iconst (x := 4) dX2_copyFrom_69 rfl ?_
  refine pm_copy ml_RX2_34 ml_copy (by first | assumption | rfl) (by first | assumption | rfl) (by decide) (by decide) (by decide) (by decide) (by decide) (by decide) (by decide) dX2_copyFrom_70 ?_
  refine pm_vret dX2_copyFrom_73 rfl ?_
  have n1 : k + 1 ≠ k2 + 1 := by omega
  have n2 : k2 + 2 ≠ k := by omega
  have n3 : k2 + 3 ≠ k := by omega
  have n4 : k2 + 4 ≠ k := by omega
  have n5 : k2 + 1 ≠ k := by omega
  have m1 : k2 + 3 ≠ k + 2 := by omega
  have m2 : k2 + 4 ≠ k + 2 := by omega
  have m3 : k2 + 1 ≠ k + 2 := by omega
  have m4 : k2 + 4 ≠ k + 3 := by omega
  have m5 : k2 + 1 ≠ k + 3 := by omega
  have m6 : k2 + 1 ≠ k + 4 := by omega
  have m7 : k2 ≠ k := by omega
  have o1 : k2 ≠ k + 1 := by omega
  have o2 : k2 ≠ k + 2 := by omega
  have o3 : k2 ≠ k + 3 := by omega
  refine ⟨⟨?_, fun i e he => ?_, fun p hp => ?_⟩, fr_st (fr_st (fr_st (fr_st (fr_s (by omega) (by omega)) (by omega) (by omega)) (by omega) (by omega)) (by omega) (by omega)) (by omega) (by omega)⟩
  · simp [pm_s, upd]
  · have hi : i < l.length := (List.getElem?_eq_some_iff.mp he).1
    have hq := h2 i e he
    have z0 : (0 : Int32).toNatClampNeg = 0 := by decide
    simp only [pm_s, z0, nI_clamp (show l.length < 2 ^ 31 by omega)]
    simp [cpy_at hi, n2, n3, n4, m1, m2, m4, hq]
  · have z0 : (0 : Int32).toNatClampNeg = 0 := by decide
    have z4 : (4 : Int32).toNatClampNeg = 4 := by decide
    simp only [pm_s, z0, z4]
    simp [cpy_at hp, n5, o1, o2, o3, h3 p hp]
end
section
/-- what is known of an asker: its fields by their slots (2 kind, 3 reach, 4 share, 5 from, 6 to, 7 last, 8 step), its counts, what followed -/
abbrev ab_A : Type := (Nat → Int32) × (Nat → Int32) × (Nat → Int32)
def as_ok (L : pm_L) (a : Nat) : Prop := L.1 a = (0, 10) ∧ L.2 a 0 = some (a + 1) ∧ L.2 a 1 = some (a + 2) ∧ L.1 (a + 1) = (10, 7) ∧ L.1 (a + 2) = (10, 64)
def as_R (w : pm_W) (a : Nat) (A : ab_A) : Prop := (∀ j, 2 ≤ j → j < 9 → w.1 a j = A.1 j) ∧ (∀ j, j < 7 → w.1 (a + 1) j = A.2.1 j) ∧ (∀ j, j < 64 → w.1 (a + 2) j = A.2.2 j)
theorem as_R_cong {w w' : pm_W} {a : Nat} {A : ab_A} (h : as_R w a A) (e : ∀ x, a ≤ x → x < a + 3 → w'.1 x = w.1 x) : as_R w' a A := by
  obtain ⟨h1, h2, h3⟩ := h
  exact ⟨fun j q1 q2 => by rw [e a (by omega) (by omega)]; exact h1 j q1 q2, fun j q => by rw [e (a + 1) (by omega) (by omega)]; exact h2 j q, fun j q => by rw [e (a + 2) (by omega) (by omega)]; exact h3 j q⟩
def ab_sp (A : ab_A) (x : Int32) : Bool := !decide (A.1 5 = -1) && (decide (A.1 5 ≤ x) && decide (x ≤ A.1 6))
def ab_lf (A : ab_A) (b : Int32) : Bool := !decide (A.1 7 = -1) && (ab_sp A b && (!ab_sp A (A.1 7) || decide (b < A.1 7)))
def ab_become (A : ab_A) (k r : Int32) : ab_A := (upd (upd (upd (upd A.1 2 k) 3 r) 5 (-1)) 6 (-1), A.2.1, A.2.2)
def ab_waste (A : ab_A) : ab_A := (if A.1 2 = 5 then upd A.1 3 (A.1 3 / 2) else A.1, upd A.2.1 4 (A.2.1 4 + 1), A.2.2)
def ab_save (A : ab_A) : ab_A := (if A.1 2 = 5 then upd A.1 3 (ab_min (A.1 3 + 1) 8) else A.1, upd A.2.1 5 (A.2.1 5 + 1), A.2.2)
def ab_inc (A : ab_A) (j : Nat) : ab_A := (A.1, upd A.2.1 j (A.2.1 j + 1), A.2.2)
def ab_learn (A : ab_A) (b : Int32) : ab_A := if A.1 7 = -1 then (upd A.1 7 b, A.2.1, A.2.2) else (upd (upd A.1 8 (b - A.1 7)) 7 b, A.2.1, upd A.2.2 (A.1 7).toNatClampNeg b)
def ab_new : ab_A := (fun j => if j = 5 ∨ j = 6 ∨ j = 7 then -1 else 0, fun _ => 0, fun _ => -1)

theorem ix_in {x : Int32} {n : Nat} {hi : Int32} (h : 0 ≤ x ∧ x ≤ hi) (hn : hi.toInt < n) : vp_in x n := by
  rw [vp_in_iff]
  have h1 := Int32.le_iff_toInt_le.mp h.1
  have h2 := Int32.le_iff_toInt_le.mp h.2
  have h3 : (0 : Int32).toInt = 0 := by decide
  omega

set_option maxRecDepth 4000 in
theorem c_X0_become {L : pm_L} {a : Nat} (ha : as_ok L a) {w : pm_W} {A : ab_A} (hR : as_R w a A) (kd r : Int32) : pm_C L MX0_become [.ref a, .int kd, .int r] w (pm_qv fun w1 => as_R w1 a (ab_become A kd r) ∧ w1.1 a 9 = w.1 a 9 ∧ fr_out w w1 a (a + 3)) := by
  obtain ⟨e1, e2, e3, e4, e5⟩ := ha
  obtain ⟨h1, h2, h3⟩ := hR
  refine pm_start (lv := [some (.ref _), some (.int _), some (.int _)]) (plainFor_of_name pf0) (Nat.le_of_ble_eq_true rfl) rfl ?_
  refine pm_aload_n dX0_become_0 rfl ?_
  refine pm_iload_n dX0_become_1 rfl ?_
  refine pm_putI (ci := 0) (j := 2) (n := 10) (by first | assumption | rfl) (by decide) (by decide) rfl fl_RX0_47 rfl rfl dX0_become_2 ?_
  refine pm_aload_n dX0_become_5 rfl ?_
  refine pm_iload_n dX0_become_6 rfl ?_
  refine pm_putI (ci := 0) (j := 3) (n := 10) (by first | assumption | rfl) (by decide) (by decide) rfl fl_RX0_50 rfl rfl dX0_become_7 ?_
  refine pm_aload_n dX0_become_10 rfl ?_
  refine pm_iconst (x := -1) dX0_become_11 rfl ?_
  refine pm_putI (ci := 0) (j := 5) (n := 10) (by first | assumption | rfl) (by decide) (by decide) rfl fl_RX0_53 rfl rfl dX0_become_12 ?_
  refine pm_aload_n dX0_become_15 rfl ?_
  refine pm_iconst (x := -1) dX0_become_16 rfl ?_
  refine pm_putI (ci := 0) (j := 6) (n := 10) (by first | assumption | rfl) (by decide) (by decide) rfl fl_RX0_56 rfl rfl dX0_become_17 ?_
  refine pm_vret dX0_become_20 rfl ?_
  refine ⟨⟨fun j q1 q2 => ?_, fun j q => ?_, fun j q => ?_⟩, ?_, fr_st (fr_st (fr_st (fr_s (by omega) (by omega)) (by omega) (by omega)) (by omega) (by omega)) (by omega) (by omega)⟩
  · rcases (show j = 2 ∨ j = 3 ∨ j = 4 ∨ j = 5 ∨ j = 6 ∨ j = 7 ∨ j = 8 by omega) with rfl | rfl | rfl | rfl | rfl | rfl | rfl <;> simp [pm_s, upd, ab_become, h1]
  · simp [pm_s, ab_become, h2 j q]
  · simp [pm_s, ab_become, h3 j q]
  · simp [pm_s, upd]

set_option maxRecDepth 4000 in
theorem c_X0_spans {L : pm_L} {a : Nat} (ha : as_ok L a) {w : pm_W} {A : ab_A} (hR : as_R w a A) (x : Int32) : pm_C L MX0_spans [.ref a, .int x] w (pm_qi fun r w1 => r = pm_z (ab_sp A x) ∧ w1 = w) := by
  obtain ⟨e1, e2, e3, e4, e5⟩ := ha
  obtain ⟨h1, h2, h3⟩ := hR
  refine pm_start (lv := [some (.ref _), some (.int _)]) (plainFor_of_name pf0) (Nat.le_of_ble_eq_true rfl) rfl ?_
  refine pm_aload_n dX0_spans_0 rfl ?_
  refine pm_getI (ci := 0) (j := 5) (n := 10) (by first | assumption | rfl) (by decide) (by decide) rfl fl_RX0_53 rfl dX0_spans_1 ?_
  rw [h1 5 (by decide) (by decide)]
  refine pm_iconst (x := -1) dX0_spans_4 rfl ?_
  refine pm_icmp_eq (tgt := 28) dX0_spans_5 (by decide) (fun c5 => ?_) (fun c5 => ?_)
  · refine pm_iconst (x := 0) dX0_spans_28 rfl ?_
    refine pm_zret dX0_spans_29 rfl (by first | exact Or.inl rfl | exact Or.inr rfl | assumption) ?_
    exact ⟨by simp [ab_sp, c5, pm_z], rfl⟩
  · refine pm_aload_n dX0_spans_8 rfl ?_
    refine pm_getI (ci := 0) (j := 5) (n := 10) (by first | assumption | rfl) (by decide) (by decide) rfl fl_RX0_53 rfl dX0_spans_9 ?_
    rw [h1 5 (by decide) (by decide)]
    refine pm_iload_n dX0_spans_12 rfl ?_
    refine pm_icmp_gt (tgt := 28) dX0_spans_13 (by decide) (fun c13 => ?_) (fun c13 => ?_)
    · refine pm_iconst (x := 0) dX0_spans_28 rfl ?_
      refine pm_zret dX0_spans_29 rfl (by first | exact Or.inl rfl | exact Or.inr rfl | assumption) ?_
      exact ⟨by simp [ab_sp, c5, Int32.not_le.mpr c13, pm_z], rfl⟩
    · refine pm_iload_n dX0_spans_16 rfl ?_
      refine pm_aload_n dX0_spans_17 rfl ?_
      refine pm_getI (ci := 0) (j := 6) (n := 10) (by first | assumption | rfl) (by decide) (by decide) rfl fl_RX0_56 rfl dX0_spans_18 ?_
      rw [h1 6 (by decide) (by decide)]
      refine pm_icmp_gt (tgt := 28) dX0_spans_21 (by decide) (fun c21 => ?_) (fun c21 => ?_)
      · refine pm_iconst (x := 0) dX0_spans_28 rfl ?_
        refine pm_zret dX0_spans_29 rfl (by first | exact Or.inl rfl | exact Or.inr rfl | assumption) ?_
        exact ⟨by simp [ab_sp, c5, Int32.not_lt.mp c13, Int32.not_le.mpr c21, pm_z], rfl⟩
      · refine pm_iconst (x := 1) dX0_spans_24 rfl ?_
        refine pm_goto (tgt := 29) dX0_spans_25 (by decide) ?_
        refine pm_zret dX0_spans_29 rfl (by first | exact Or.inl rfl | exact Or.inr rfl | assumption) ?_
        exact ⟨by simp [ab_sp, c5, Int32.not_lt.mp c13, Int32.not_lt.mp c21, pm_z], rfl⟩

set_option maxRecDepth 4000 in
theorem c_X0_hasLeft {L : pm_L} {a : Nat} (ha : as_ok L a) {w : pm_W} {A : ab_A} (hR : as_R w a A) (b : Int32) : pm_C L MX0_hasLeft [.ref a, .int b] w (pm_qi fun r w1 => r = pm_z (ab_lf A b) ∧ w1 = w) := by
  obtain ⟨e1, e2, e3, e4, e5⟩ := ha
  obtain ⟨h1, h2, h3⟩ := hR
  refine pm_start (lv := [some (.ref _), some (.int _)]) (plainFor_of_name pf0) (Nat.le_of_ble_eq_true rfl) rfl ?_
  refine pm_aload_n dX0_hasLeft_0 rfl ?_
  refine pm_getI (ci := 0) (j := 7) (n := 10) (by first | assumption | rfl) (by decide) (by decide) rfl fl_RX0_32 rfl dX0_hasLeft_1 ?_
  rw [h1 7 (by decide) (by decide)]
  refine pm_iconst (x := -1) dX0_hasLeft_4 rfl ?_
  refine pm_icmp_eq (tgt := 39) dX0_hasLeft_5 (by decide) (fun c5 => ?_) (fun c5 => ?_)
  · refine pm_iconst (x := 0) dX0_hasLeft_39 rfl ?_
    refine pm_zret dX0_hasLeft_40 rfl (by first | exact Or.inl rfl | exact Or.inr rfl | assumption) ?_
    exact ⟨by simp [ab_lf, c5, pm_z], rfl⟩
  · refine pm_aload_n dX0_hasLeft_8 rfl ?_
    refine pm_iload_n dX0_hasLeft_9 rfl ?_
    refine pm_cVi (as := [.int _]) (by first | assumption | rfl) (by decide) rfl ml_RX0_59 (by decide) (Nat.le_of_ble_eq_true rfl) dX0_hasLeft_10 (c_X0_spans ⟨e1, e2, e3, e4, e5⟩ ⟨h1, h2, h3⟩ _) (fun x1 w1 hq => ?_)
    obtain ⟨rfl, rfl⟩ := hq
    refine pm_if_eq (tgt := 39) dX0_hasLeft_13 (by decide) (fun c13 => ?_) (fun c13 => ?_)
    · refine pm_iconst (x := 0) dX0_hasLeft_39 rfl ?_
      refine pm_zret dX0_hasLeft_40 rfl (by first | exact Or.inl rfl | exact Or.inr rfl | assumption) ?_
      rw [pm_z_0] at c13
      exact ⟨by simp [ab_lf, c5, c13, pm_z], rfl⟩
    · rw [pm_z_1] at c13
      refine pm_aload_n dX0_hasLeft_16 rfl ?_
      refine pm_aload_n dX0_hasLeft_17 rfl ?_
      refine pm_getI (ci := 0) (j := 7) (n := 10) (by first | assumption | rfl) (by decide) (by decide) rfl fl_RX0_32 rfl dX0_hasLeft_18 ?_
      rw [h1 7 (by decide) (by decide)]
      refine pm_cVi (as := [.int _]) (by first | assumption | rfl) (by decide) rfl ml_RX0_59 (by decide) (Nat.le_of_ble_eq_true rfl) dX0_hasLeft_21 (c_X0_spans ⟨e1, e2, e3, e4, e5⟩ ⟨h1, h2, h3⟩ _) (fun x1 w1 hq => ?_)
      obtain ⟨rfl, rfl⟩ := hq
      refine pm_if_eq (tgt := 35) dX0_hasLeft_24 (by decide) (fun c24 => ?_) (fun c24 => ?_)
      · refine pm_iconst (x := 1) dX0_hasLeft_35 rfl ?_
        refine pm_goto (tgt := 40) dX0_hasLeft_36 (by decide) ?_
        refine pm_zret dX0_hasLeft_40 rfl (by first | exact Or.inl rfl | exact Or.inr rfl | assumption) ?_
        rw [pm_z_0] at c24
        exact ⟨by simp [ab_lf, c5, c13, c24, pm_z], rfl⟩
      · rw [pm_z_1] at c24
        refine pm_aload_n dX0_hasLeft_27 rfl ?_
        refine pm_getI (ci := 0) (j := 7) (n := 10) (by first | assumption | rfl) (by decide) (by decide) rfl fl_RX0_32 rfl dX0_hasLeft_28 ?_
        rw [h1 7 (by decide) (by decide)]
        refine pm_iload_n dX0_hasLeft_31 rfl ?_
        refine pm_icmp_le (tgt := 39) dX0_hasLeft_32 (by decide) (fun c32 => ?_) (fun c32 => ?_)
        · refine pm_iconst (x := 0) dX0_hasLeft_39 rfl ?_
          refine pm_zret dX0_hasLeft_40 rfl (by first | exact Or.inl rfl | exact Or.inr rfl | assumption) ?_
          exact ⟨by simp [ab_lf, c5, c13, c24, Int32.not_lt.mpr c32, pm_z], rfl⟩
        · refine pm_iconst (x := 1) dX0_hasLeft_35 rfl ?_
          refine pm_goto (tgt := 40) dX0_hasLeft_36 (by decide) ?_
          refine pm_zret dX0_hasLeft_40 rfl (by first | exact Or.inl rfl | exact Or.inr rfl | assumption) ?_
          exact ⟨by simp [ab_lf, c5, c13, c24, Int32.not_le.mp c32, pm_z], rfl⟩

set_option maxRecDepth 4000 in
theorem c_X0_countWasted {L : pm_L} {a : Nat} (ha : as_ok L a) {w : pm_W} {A : ab_A} (hR : as_R w a A) : pm_C L MX0_countWasted [.ref a] w (pm_qv fun w1 => as_R w1 a (ab_waste A) ∧ w1.1 a 9 = w.1 a 9 ∧ fr_out w w1 a (a + 3)) := by
  obtain ⟨e1, e2, e3, e4, e5⟩ := ha
  obtain ⟨h1, h2, h3⟩ := hR
  refine pm_start (lv := [some (.ref _)]) (plainFor_of_name pf0) (Nat.le_of_ble_eq_true rfl) rfl ?_
  refine pm_aload_n dX0_countWasted_0 rfl ?_
  refine pm_getR (ci := 0) (j := 0) (n := 10) (by first | assumption | rfl) (by decide) (by decide) rfl fl_RX0_9 rfl (by first | assumption | rfl) dX0_countWasted_1 ?_
  refine pm_iconst (x := nI 4) dX0_countWasted_4 rfl ?_
  refine pm_dup2 dX0_countWasted_5 rfl rfl ?_
  refine pm_ialdN (by first | assumption | rfl) (by decide) (by first | decide | omega) dX0_countWasted_6 ?_
  refine pm_iconst (x := 1) dX0_countWasted_7 rfl ?_
  refine pm_iadd dX0_countWasted_8 ?_
  refine pm_iastN (by first | assumption | rfl) (by decide) (by first | decide | omega) dX0_countWasted_9 ?_
  refine pm_aload_n dX0_countWasted_10 rfl ?_
  refine pm_getI (ci := 0) (j := 2) (n := 10) (by first | assumption | rfl) (by decide) (by decide) rfl fl_RX0_47 rfl dX0_countWasted_11 ?_
  rw [show (pm_s w (a + 1) (upd (w.1 (a + 1)) 4 (w.1 (a + 1) 4 + 1))).1 a 2 = A.1 2 by rw [pm_s_ne (by omega)]; exact h1 2 (by decide) (by decide)]
  refine pm_iconst (x := 5) dX0_countWasted_14 rfl ?_
  refine pm_icmp_ne (tgt := 28) dX0_countWasted_15 (by decide) (fun c15 => ?_) (fun c15 => ?_)
  · refine pm_vret dX0_countWasted_28 rfl ?_
    refine ⟨⟨fun j q1 q2 => ?_, fun j q => ?_, fun j q => ?_⟩, ?_, fr_s (by omega) (by omega)⟩
    · rcases (show j = 2 ∨ j = 3 ∨ j = 4 ∨ j = 5 ∨ j = 6 ∨ j = 7 ∨ j = 8 by omega) with rfl | rfl | rfl | rfl | rfl | rfl | rfl <;> simp [pm_s, upd, ab_waste, h1, c15]
    · by_cases hj : j = 4
      · subst hj; simp [pm_s, upd, ab_waste, h2]
      · simp [pm_s, upd, ab_waste, hj, h2 j q]
    · simp [pm_s, ab_waste, h3 j q]
    · simp [pm_s, upd]
  · refine pm_aload_n dX0_countWasted_18 rfl ?_
    refine pm_aload_n dX0_countWasted_19 rfl ?_
    refine pm_getI (ci := 0) (j := 3) (n := 10) (by first | assumption | rfl) (by decide) (by decide) rfl fl_RX0_50 rfl dX0_countWasted_20 ?_
    refine pm_iconst (x := 2) dX0_countWasted_23 rfl ?_
    refine pm_idiv dX0_countWasted_24 (by decide) ?_
    refine pm_putI (ci := 0) (j := 3) (n := 10) (by first | assumption | rfl) (by decide) (by decide) rfl fl_RX0_50 rfl rfl dX0_countWasted_25 ?_
    refine pm_vret dX0_countWasted_28 rfl ?_
    refine ⟨⟨fun j q1 q2 => ?_, fun j q => ?_, fun j q => ?_⟩, ?_, fr_st (fr_s (by omega) (by omega)) (by omega) (by omega)⟩
    · rcases (show j = 2 ∨ j = 3 ∨ j = 4 ∨ j = 5 ∨ j = 6 ∨ j = 7 ∨ j = 8 by omega) with rfl | rfl | rfl | rfl | rfl | rfl | rfl <;> simp [pm_s, upd, ab_waste, h1, c15]
    · by_cases hj : j = 4
      · subst hj; simp [pm_s, upd, ab_waste, h2]
      · simp [pm_s, upd, ab_waste, hj, h2 j q]
    · simp [pm_s, ab_waste, h3 j q]
    · simp [pm_s, upd]

set_option maxRecDepth 4000 in
theorem c_X0_countSaved {L : pm_L} {a : Nat} (ha : as_ok L a) {w : pm_W} {A : ab_A} (hR : as_R w a A) : pm_C L MX0_countSaved [.ref a] w (pm_qv fun w1 => as_R w1 a (ab_save A) ∧ w1.1 a 9 = w.1 a 9 ∧ fr_out w w1 a (a + 3)) := by
  obtain ⟨e1, e2, e3, e4, e5⟩ := ha
  obtain ⟨h1, h2, h3⟩ := hR
  refine pm_start (lv := [some (.ref _)]) (plainFor_of_name pf0) (Nat.le_of_ble_eq_true rfl) rfl ?_
  refine pm_aload_n dX0_countSaved_0 rfl ?_
  refine pm_getR (ci := 0) (j := 0) (n := 10) (by first | assumption | rfl) (by decide) (by decide) rfl fl_RX0_9 rfl (by first | assumption | rfl) dX0_countSaved_1 ?_
  refine pm_iconst (x := nI 5) dX0_countSaved_4 rfl ?_
  refine pm_dup2 dX0_countSaved_5 rfl rfl ?_
  refine pm_ialdN (by first | assumption | rfl) (by decide) (by first | decide | omega) dX0_countSaved_6 ?_
  refine pm_iconst (x := 1) dX0_countSaved_7 rfl ?_
  refine pm_iadd dX0_countSaved_8 ?_
  refine pm_iastN (by first | assumption | rfl) (by decide) (by first | decide | omega) dX0_countSaved_9 ?_
  refine pm_aload_n dX0_countSaved_10 rfl ?_
  refine pm_getI (ci := 0) (j := 2) (n := 10) (by first | assumption | rfl) (by decide) (by decide) rfl fl_RX0_47 rfl dX0_countSaved_11 ?_
  rw [show (pm_s w (a + 1) (upd (w.1 (a + 1)) 5 (w.1 (a + 1) 5 + 1))).1 a 2 = A.1 2 by rw [pm_s_ne (by omega)]; exact h1 2 (by decide) (by decide)]
  refine pm_iconst (x := 5) dX0_countSaved_14 rfl ?_
  refine pm_icmp_ne (tgt := 33) dX0_countSaved_15 (by decide) (fun c15 => ?_) (fun c15 => ?_)
  · refine pm_vret dX0_countSaved_33 rfl ?_
    refine ⟨⟨fun j q1 q2 => ?_, fun j q => ?_, fun j q => ?_⟩, ?_, fr_s (by omega) (by omega)⟩
    · rcases (show j = 2 ∨ j = 3 ∨ j = 4 ∨ j = 5 ∨ j = 6 ∨ j = 7 ∨ j = 8 by omega) with rfl | rfl | rfl | rfl | rfl | rfl | rfl <;> simp [pm_s, upd, ab_save, h1, c15]
    · by_cases hj : j = 5
      · subst hj; simp [pm_s, upd, ab_save, h2]
      · simp [pm_s, upd, ab_save, hj, h2 j q]
    · simp [pm_s, ab_save, h3 j q]
    · simp [pm_s, upd]
  · refine pm_aload_n dX0_countSaved_18 rfl ?_
    refine pm_aload_n dX0_countSaved_19 rfl ?_
    refine pm_getI (ci := 0) (j := 3) (n := 10) (by first | assumption | rfl) (by decide) (by decide) rfl fl_RX0_50 rfl dX0_countSaved_20 ?_
    refine pm_iconst (x := 1) dX0_countSaved_23 rfl ?_
    refine pm_iadd dX0_countSaved_24 ?_
    refine pm_bipush (x := 8) dX0_countSaved_25 rfl ?_
    refine pm_cSi (as := [.int _, .int _]) ml_RX0_63 (by decide) (Nat.le_of_ble_eq_true rfl) dX0_countSaved_27 (c_J9_min_7cf53 L _ _ _) (fun x1 w1 hq => ?_)
    obtain ⟨rfl, rfl⟩ := hq
    refine pm_putI (ci := 0) (j := 3) (n := 10) (by first | assumption | rfl) (by decide) (by decide) rfl fl_RX0_50 rfl rfl dX0_countSaved_30 ?_
    refine pm_vret dX0_countSaved_33 rfl ?_
    refine ⟨⟨fun j q1 q2 => ?_, fun j q => ?_, fun j q => ?_⟩, ?_, fr_st (fr_s (by omega) (by omega)) (by omega) (by omega)⟩
    · rcases (show j = 2 ∨ j = 3 ∨ j = 4 ∨ j = 5 ∨ j = 6 ∨ j = 7 ∨ j = 8 by omega) with rfl | rfl | rfl | rfl | rfl | rfl | rfl <;> simp [pm_s, upd, ab_save, h1, c15]
    · by_cases hj : j = 5
      · subst hj; simp [pm_s, upd, ab_save, h2]
      · simp [pm_s, upd, ab_save, hj, h2 j q]
    · simp [pm_s, ab_save, h3 j q]
    · simp [pm_s, upd]

set_option maxRecDepth 4000 in
theorem c_X0_learn {L : pm_L} {a : Nat} (ha : as_ok L a) {w : pm_W} {A : ab_A} (hR : as_R w a A) (hl : A.1 7 = -1 ∨ (0 ≤ A.1 7 ∧ A.1 7 ≤ 63)) (b : Int32) : pm_C L MX0_learn [.ref a, .int b] w (pm_qv fun w1 => as_R w1 a (ab_learn A b) ∧ (A.1 7 = -1 → w1.1 a 9 = w.1 a 9) ∧ (¬ A.1 7 = -1 → w1.1 a 9 = A.1 8) ∧ fr_out w w1 a (a + 3)) := by
  obtain ⟨e1, e2, e3, e4, e5⟩ := ha
  obtain ⟨h1, h2, h3⟩ := hR
  refine pm_start (lv := [some (.ref _), some (.int _)]) (plainFor_of_name pf0) (Nat.le_of_ble_eq_true rfl) rfl ?_
  refine pm_aload_n dX0_learn_0 rfl ?_
  refine pm_getI (ci := 0) (j := 7) (n := 10) (by first | assumption | rfl) (by decide) (by decide) rfl fl_RX0_32 rfl dX0_learn_1 ?_
  rw [h1 7 (by decide) (by decide)]
  refine pm_iconst (x := -1) dX0_learn_4 rfl ?_
  refine pm_icmp_eq (tgt := 36) dX0_learn_5 (by decide) (fun c5 => ?_) (fun c5 => ?_)
  · refine pm_aload_n dX0_learn_36 rfl ?_
    refine pm_iload_n dX0_learn_37 rfl ?_
    refine pm_putI (ci := 0) (j := 7) (n := 10) (by first | assumption | rfl) (by decide) (by decide) rfl fl_RX0_32 rfl rfl dX0_learn_38 ?_
    refine pm_vret dX0_learn_41 rfl ?_
    refine ⟨⟨fun j q1 q2 => ?_, fun j q => ?_, fun j q => ?_⟩, fun _ => ?_, fun h => absurd c5 h, fr_s (by omega) (by omega)⟩
    · rcases (show j = 2 ∨ j = 3 ∨ j = 4 ∨ j = 5 ∨ j = 6 ∨ j = 7 ∨ j = 8 by omega) with rfl | rfl | rfl | rfl | rfl | rfl | rfl <;> simp [pm_s, upd, ab_learn, h1, c5]
    · simp [pm_s, ab_learn, h2 j q, c5]
    · simp [pm_s, ab_learn, h3 j q, c5]
    · simp [pm_s, upd]
  · have hlr := hl.resolve_left c5
    refine pm_aload_n dX0_learn_8 rfl ?_
    refine pm_getR (ci := 0) (j := 1) (n := 10) (by first | assumption | rfl) (by decide) (by decide) rfl fl_RX0_15 rfl (by first | assumption | rfl) dX0_learn_9 ?_
    refine pm_aload_n dX0_learn_12 rfl ?_
    refine pm_getI (ci := 0) (j := 7) (n := 10) (by first | assumption | rfl) (by decide) (by decide) rfl fl_RX0_32 rfl dX0_learn_13 ?_
    rw [h1 7 (by decide) (by decide)]
    refine pm_iload_n dX0_learn_16 rfl ?_
    refine pm_iast (by first | assumption | rfl) (by exact ix_in hlr (by decide)) dX0_learn_17 ?_
    refine pm_aload_n dX0_learn_18 rfl ?_
    refine pm_aload_n dX0_learn_19 rfl ?_
    refine pm_getI (ci := 0) (j := 8) (n := 10) (by first | assumption | rfl) (by decide) (by decide) rfl fl_RX0_35 rfl dX0_learn_20 ?_
    refine pm_topi (A.1 8) (by rw [pm_s_ne (by omega)]; exact h1 8 (by decide) (by decide)) ?_
    refine pm_putI (ci := 0) (j := 9) (n := 10) (by first | assumption | rfl) (by decide) (by decide) rfl fl_RX0_38 rfl rfl dX0_learn_23 ?_
    refine pm_aload_n dX0_learn_26 rfl ?_
    refine pm_iload_n dX0_learn_27 rfl ?_
    refine pm_aload_n dX0_learn_28 rfl ?_
    refine pm_getI (ci := 0) (j := 7) (n := 10) (by first | assumption | rfl) (by decide) (by decide) rfl fl_RX0_32 rfl dX0_learn_29 ?_
    refine pm_topi (A.1 7) (by simp [pm_s, upd, h1]) ?_
    refine pm_isub dX0_learn_32 ?_
    refine pm_putI (ci := 0) (j := 8) (n := 10) (by first | assumption | rfl) (by decide) (by decide) rfl fl_RX0_35 rfl rfl dX0_learn_33 ?_
    refine pm_aload_n dX0_learn_36 rfl ?_
    refine pm_iload_n dX0_learn_37 rfl ?_
    refine pm_putI (ci := 0) (j := 7) (n := 10) (by first | assumption | rfl) (by decide) (by decide) rfl fl_RX0_32 rfl rfl dX0_learn_38 ?_
    refine pm_vret dX0_learn_41 rfl ?_
    refine ⟨⟨fun j q1 q2 => ?_, fun j q => ?_, fun j q => ?_⟩, fun h => absurd h c5, fun _ => ?_, fr_st (fr_st (fr_st (fr_s (by omega) (by omega)) (by omega) (by omega)) (by omega) (by omega)) (by omega) (by omega)⟩
    · rcases (show j = 2 ∨ j = 3 ∨ j = 4 ∨ j = 5 ∨ j = 6 ∨ j = 7 ∨ j = 8 by omega) with rfl | rfl | rfl | rfl | rfl | rfl | rfl <;> simp [pm_s, upd, ab_learn, h1, c5]
    · simp [pm_s, ab_learn, h2 j q, c5]
    · by_cases hj : j = (A.1 7).toNatClampNeg
      · simp [pm_s, upd, ab_learn, c5, hj]
      · simp [pm_s, upd, ab_learn, c5, hj, h3 j q]
    · simp [pm_s, upd]

set_option maxRecDepth 4000 in
theorem c_X0_isSteady {L : pm_L} {a : Nat} (ha : as_ok L a) {w : pm_W} {A : ab_A} (hR : as_R w a A) : pm_C L MX0_isSteady [.ref a] w (pm_qi fun r w1 => r = pm_z (!decide (A.1 8 = 0) && decide (A.1 8 = w.1 a 9)) ∧ w1 = w) := by
  obtain ⟨e1, e2, e3, e4, e5⟩ := ha
  obtain ⟨h1, h2, h3⟩ := hR
  refine pm_start (lv := [some (.ref _)]) (plainFor_of_name pf0) (Nat.le_of_ble_eq_true rfl) rfl ?_
  refine pm_aload_n dX0_isSteady_0 rfl ?_
  refine pm_getI (ci := 0) (j := 8) (n := 10) (by first | assumption | rfl) (by decide) (by decide) rfl fl_RX0_35 rfl dX0_isSteady_1 ?_
  rw [h1 8 (by decide) (by decide)]
  refine pm_if_eq (tgt := 22) dX0_isSteady_4 (by decide) (fun c4 => ?_) (fun c4 => ?_)
  · refine pm_iconst (x := 0) dX0_isSteady_22 rfl ?_
    refine pm_zret dX0_isSteady_23 rfl (by first | exact Or.inl rfl | exact Or.inr rfl | assumption) ?_
    exact ⟨by simp [c4, pm_z], rfl⟩
  · refine pm_aload_n dX0_isSteady_7 rfl ?_
    refine pm_getI (ci := 0) (j := 8) (n := 10) (by first | assumption | rfl) (by decide) (by decide) rfl fl_RX0_35 rfl dX0_isSteady_8 ?_
    rw [h1 8 (by decide) (by decide)]
    refine pm_aload_n dX0_isSteady_11 rfl ?_
    refine pm_getI (ci := 0) (j := 9) (n := 10) (by first | assumption | rfl) (by decide) (by decide) rfl fl_RX0_38 rfl dX0_isSteady_12 ?_
    refine pm_icmp_ne (tgt := 22) dX0_isSteady_15 (by decide) (fun c15 => ?_) (fun c15 => ?_)
    · refine pm_iconst (x := 0) dX0_isSteady_22 rfl ?_
      refine pm_zret dX0_isSteady_23 rfl (by first | exact Or.inl rfl | exact Or.inr rfl | assumption) ?_
      exact ⟨by simp [c4, c15, pm_z], rfl⟩
    · refine pm_iconst (x := 1) dX0_isSteady_18 rfl ?_
      refine pm_goto (tgt := 23) dX0_isSteady_19 (by decide) ?_
      refine pm_zret dX0_isSteady_23 rfl (by first | exact Or.inl rfl | exact Or.inr rfl | assumption) ?_
      rw [c15] at c4
      exact ⟨by simp [c4, c15, pm_z], rfl⟩

set_option maxRecDepth 4000 in
theorem c_X0_begin {L : pm_L} {a : Nat} (ha : as_ok L a) (w : pm_W) : pm_C L MX0_begin [.ref a] w (pm_qv fun w1 => as_R w1 a ab_new ∧ fr_out w w1 a (a + 3)) := by
  obtain ⟨e1, e2, e3, e4, e5⟩ := ha
  refine pm_start (lv := [some (.ref _)]) (plainFor_of_name pf0) (Nat.le_of_ble_eq_true rfl) rfl ?_
  refine pm_aload_n dX0_begin_0 rfl ?_
  refine pm_getR (ci := 0) (j := 0) (n := 10) (by first | assumption | rfl) (by decide) (by decide) rfl fl_RX0_9 rfl (by first | assumption | rfl) dX0_begin_1 ?_
  refine pm_iconst (x := 0) dX0_begin_4 rfl ?_
  refine pm_cSv (as := [.ref _, .int _]) ml_RX0_18 (by decide) (Nat.le_of_ble_eq_true rfl) dX0_begin_5 (c_J7_fill_53178 (n := 7) (by assumption) (by decide) _ _) (fun w1 hq => ?_)
  subst hq
  refine pm_aload_n dX0_begin_8 rfl ?_
  refine pm_getR (ci := 0) (j := 1) (n := 10) (by first | assumption | rfl) (by decide) (by decide) rfl fl_RX0_15 rfl (by first | assumption | rfl) dX0_begin_9 ?_
  refine pm_iconst (x := -1) dX0_begin_12 rfl ?_
  refine pm_cSv (as := [.ref _, .int _]) ml_RX0_18 (by decide) (Nat.le_of_ble_eq_true rfl) dX0_begin_13 (c_J7_fill_53178 (n := 64) (by assumption) (by decide) _ _) (fun w1 hq => ?_)
  subst hq
  refine pm_aload_n dX0_begin_16 rfl ?_
  refine pm_iconst (x := 0) dX0_begin_17 rfl ?_
  refine pm_iconst (x := 0) dX0_begin_18 rfl ?_
  refine pm_cVv (as := [.int _, .int _]) (by first | assumption | rfl) (by decide) rfl ml_RX0_24 (by decide) (Nat.le_of_ble_eq_true rfl) dX0_begin_19 (c_X0_become (A := (_, _, _)) ⟨e1, e2, e3, e4, e5⟩ ⟨fun j _ _ => rfl, fun j _ => rfl, fun j _ => rfl⟩ _ _) (fun w1 hq => ?_)
  obtain ⟨⟨b1, b2, b3⟩, b4, b5⟩ := hq
  refine pm_aload_n dX0_begin_22 rfl ?_
  refine pm_iconst (x := 0) dX0_begin_23 rfl ?_
  refine pm_putI (ci := 0) (j := 4) (n := 10) (by first | assumption | rfl) (by decide) (by decide) rfl fl_RX0_28 rfl rfl dX0_begin_24 ?_
  refine pm_aload_n dX0_begin_27 rfl ?_
  refine pm_iconst (x := -1) dX0_begin_28 rfl ?_
  refine pm_putI (ci := 0) (j := 7) (n := 10) (by first | assumption | rfl) (by decide) (by decide) rfl fl_RX0_32 rfl rfl dX0_begin_29 ?_
  refine pm_aload_n dX0_begin_32 rfl ?_
  refine pm_iconst (x := 0) dX0_begin_33 rfl ?_
  refine pm_putI (ci := 0) (j := 8) (n := 10) (by first | assumption | rfl) (by decide) (by decide) rfl fl_RX0_35 rfl rfl dX0_begin_34 ?_
  refine pm_aload_n dX0_begin_37 rfl ?_
  refine pm_iconst (x := 0) dX0_begin_38 rfl ?_
  refine pm_putI (ci := 0) (j := 9) (n := 10) (by first | assumption | rfl) (by decide) (by decide) rfl fl_RX0_38 rfl rfl dX0_begin_39 ?_
  refine pm_vret dX0_begin_42 rfl ?_
  refine ⟨⟨fun j q1 q2 => ?_, fun j q => ?_, fun j q => ?_⟩, fr_st (fr_st (fr_st (fr_st (fr_tr (fr_st (fr_s (by omega) (by omega)) (by omega) (by omega)) b5) (by omega) (by omega)) (by omega) (by omega)) (by omega) (by omega)) (by omega) (by omega)⟩
  · rcases (show j = 2 ∨ j = 3 ∨ j = 4 ∨ j = 5 ∨ j = 6 ∨ j = 7 ∨ j = 8 by omega) with rfl | rfl | rfl | rfl | rfl | rfl | rfl <;> simp [pm_s, upd, ab_new, b1, ab_become]
  · simp only [pm_s]
    simp [b2 j q, ab_become, pm_s, fl, q, ab_new]
  · simp only [pm_s]
    simp [b3 j q, ab_become, pm_s, fl, q, ab_new]

set_option maxRecDepth 4000 in
theorem c_X0_copyFrom {L : pm_L} {a a2 : Nat} (ha : as_ok L a) (ha2 : as_ok L a2) (hd : a + 3 ≤ a2 ∨ a2 + 3 ≤ a) {w : pm_W} {A : ab_A} (hR : as_R w a2 A) : pm_C L MX0_copyFrom [.ref a, .ref a2] w (pm_qv fun w1 => as_R w1 a A ∧ w1.1 a 9 = w.1 a2 9 ∧ fr_out w w1 a (a + 3)) := by
  obtain ⟨e1, e2, e3, e4, e5⟩ := ha
  obtain ⟨b1, b2, b3, b4, b5⟩ := ha2
  obtain ⟨h1, h2, h3⟩ := hR
  refine pm_start (lv := [some (.ref _), some (.ref _)]) (plainFor_of_name pf0) (Nat.le_of_ble_eq_true rfl) rfl ?_
  refine pm_aload_n dX0_copyFrom_0 rfl ?_
  refine pm_getR (ci := 0) (j := 0) (n := 10) (by first | assumption | rfl) (by decide) (by decide) rfl fl_RX0_9 rfl (by first | assumption | rfl) dX0_copyFrom_1 ?_
  refine pm_iconst (x := 0) dX0_copyFrom_4 rfl ?_
  refine pm_aload_n dX0_copyFrom_5 rfl ?_
  refine pm_getR (ci := 0) (j := 0) (n := 10) (by first | assumption | rfl) (by decide) (by decide) rfl fl_RX0_9 rfl (by first | assumption | rfl) dX0_copyFrom_6 ?_
  refine pm_iconst (x := 0) dX0_copyFrom_9 rfl ?_
  refine pm_bipush (x := 7) dX0_copyFrom_10 rfl ?_
  refine pm_copy ml_RX0_41 ml_copy (by first | assumption | rfl) (by first | assumption | rfl) (by decide) (by decide) (by decide) (by decide) (by decide) (by decide) (by decide) dX0_copyFrom_12 ?_
  refine pm_aload_n dX0_copyFrom_15 rfl ?_
  refine pm_getR (ci := 0) (j := 1) (n := 10) (by first | assumption | rfl) (by decide) (by decide) rfl fl_RX0_15 rfl (by first | assumption | rfl) dX0_copyFrom_16 ?_
  refine pm_iconst (x := 0) dX0_copyFrom_19 rfl ?_
  refine pm_aload_n dX0_copyFrom_20 rfl ?_
  refine pm_getR (ci := 0) (j := 1) (n := 10) (by first | assumption | rfl) (by decide) (by decide) rfl fl_RX0_15 rfl (by first | assumption | rfl) dX0_copyFrom_21 ?_
  refine pm_iconst (x := 0) dX0_copyFrom_24 rfl ?_
  refine pm_bipush (x := 64) dX0_copyFrom_25 rfl ?_
  refine pm_copy ml_RX0_41 ml_copy (by first | assumption | rfl) (by first | assumption | rfl) (by decide) (by decide) (by decide) (by decide) (by decide) (by decide) (by decide) dX0_copyFrom_27 ?_
  refine pm_aload_n dX0_copyFrom_30 rfl ?_
  refine pm_aload_n dX0_copyFrom_31 rfl ?_
  refine pm_getI (ci := 0) (j := 2) (n := 10) (by first | assumption | rfl) (by decide) (by decide) rfl fl_RX0_47 rfl dX0_copyFrom_32 ?_
  refine pm_putI (ci := 0) (j := 2) (n := 10) (by first | assumption | rfl) (by decide) (by decide) rfl fl_RX0_47 rfl rfl dX0_copyFrom_35 ?_
  refine pm_aload_n dX0_copyFrom_38 rfl ?_
  refine pm_aload_n dX0_copyFrom_39 rfl ?_
  refine pm_getI (ci := 0) (j := 3) (n := 10) (by first | assumption | rfl) (by decide) (by decide) rfl fl_RX0_50 rfl dX0_copyFrom_40 ?_
  refine pm_putI (ci := 0) (j := 3) (n := 10) (by first | assumption | rfl) (by decide) (by decide) rfl fl_RX0_50 rfl rfl dX0_copyFrom_43 ?_
  refine pm_aload_n dX0_copyFrom_46 rfl ?_
  refine pm_aload_n dX0_copyFrom_47 rfl ?_
  refine pm_getI (ci := 0) (j := 4) (n := 10) (by first | assumption | rfl) (by decide) (by decide) rfl fl_RX0_28 rfl dX0_copyFrom_48 ?_
  refine pm_putI (ci := 0) (j := 4) (n := 10) (by first | assumption | rfl) (by decide) (by decide) rfl fl_RX0_28 rfl rfl dX0_copyFrom_51 ?_
  refine pm_aload_n dX0_copyFrom_54 rfl ?_
  refine pm_aload_n dX0_copyFrom_55 rfl ?_
  refine pm_getI (ci := 0) (j := 5) (n := 10) (by first | assumption | rfl) (by decide) (by decide) rfl fl_RX0_53 rfl dX0_copyFrom_56 ?_
  refine pm_putI (ci := 0) (j := 5) (n := 10) (by first | assumption | rfl) (by decide) (by decide) rfl fl_RX0_53 rfl rfl dX0_copyFrom_59 ?_
  refine pm_aload_n dX0_copyFrom_62 rfl ?_
  refine pm_aload_n dX0_copyFrom_63 rfl ?_
  refine pm_getI (ci := 0) (j := 6) (n := 10) (by first | assumption | rfl) (by decide) (by decide) rfl fl_RX0_56 rfl dX0_copyFrom_64 ?_
  refine pm_putI (ci := 0) (j := 6) (n := 10) (by first | assumption | rfl) (by decide) (by decide) rfl fl_RX0_56 rfl rfl dX0_copyFrom_67 ?_
  refine pm_aload_n dX0_copyFrom_70 rfl ?_
  refine pm_aload_n dX0_copyFrom_71 rfl ?_
  refine pm_getI (ci := 0) (j := 7) (n := 10) (by first | assumption | rfl) (by decide) (by decide) rfl fl_RX0_32 rfl dX0_copyFrom_72 ?_
  refine pm_putI (ci := 0) (j := 7) (n := 10) (by first | assumption | rfl) (by decide) (by decide) rfl fl_RX0_32 rfl rfl dX0_copyFrom_75 ?_
  refine pm_aload_n dX0_copyFrom_78 rfl ?_
  refine pm_aload_n dX0_copyFrom_79 rfl ?_
  refine pm_getI (ci := 0) (j := 8) (n := 10) (by first | assumption | rfl) (by decide) (by decide) rfl fl_RX0_35 rfl dX0_copyFrom_80 ?_
  refine pm_putI (ci := 0) (j := 8) (n := 10) (by first | assumption | rfl) (by decide) (by decide) rfl fl_RX0_35 rfl rfl dX0_copyFrom_83 ?_
  refine pm_aload_n dX0_copyFrom_86 rfl ?_
  refine pm_aload_n dX0_copyFrom_87 rfl ?_
  refine pm_getI (ci := 0) (j := 9) (n := 10) (by first | assumption | rfl) (by decide) (by decide) rfl fl_RX0_38 rfl dX0_copyFrom_88 ?_
  refine pm_putI (ci := 0) (j := 9) (n := 10) (by first | assumption | rfl) (by decide) (by decide) rfl fl_RX0_38 rfl rfl dX0_copyFrom_91 ?_
  refine pm_vret dX0_copyFrom_94 rfl ?_
  have n1 : a2 ≠ a := by omega
  have n2 : a2 ≠ a + 1 := by omega
  have n3 : a2 ≠ a + 2 := by omega
  have n4 : a2 + 1 ≠ a := by omega
  have n5 : a2 + 2 ≠ a := by omega
  have n6 : a2 + 2 ≠ a + 1 := by omega
  have z0 : (0 : Int32).toNatClampNeg = 0 := by decide
  have z7 : (7 : Int32).toNatClampNeg = 7 := by decide
  have z64 : (64 : Int32).toNatClampNeg = 64 := by decide
  refine ⟨⟨fun j q1 q2 => ?_, fun j q => ?_, fun j q => ?_⟩, ?_, ?_⟩
  · rcases (show j = 2 ∨ j = 3 ∨ j = 4 ∨ j = 5 ∨ j = 6 ∨ j = 7 ∨ j = 8 by omega) with rfl | rfl | rfl | rfl | rfl | rfl | rfl <;> simp [pm_s, upd, h1, n1, n2, n3]
  · simp only [pm_s, z0, z7, z64]
    simp [cpy_at q, h2 j q, n1, n2, n4, n5]
  · simp only [pm_s, z0, z7, z64]
    simp [cpy_at q, h3 j q, n1, n2, n3, n4, n5, n6]
  · simp [pm_s, upd, n1, n2, n3]
  · repeat (first | exact fr_rf _ _ _ | refine fr_st ?_ (by omega) (by omega))
end
section
/-- the house: room, line, askers, numbers by their slots (4 space, 5 speed, 6 pace, 7 arm, 8 way, 9 ticks), all asks since clear -/
abbrev ab_S : Type := List ab_E × List ab_E × (Nat → ab_A) × (Nat → Int32) × List Int32
def hs_ok (L : pm_L) (hb : Nat) : Prop := L.1 hb = (3, 11) ∧ L.2 hb 0 = some (hb + 1) ∧ L.2 hb 1 = some (hb + 6) ∧ L.2 hb 2 = some (hb + 11) ∧ L.2 hb 3 = some (hb + 12) ∧ L.1 (hb + 11) = (14, 4) ∧ L.1 (hb + 12) = (10, 24) ∧ hd_ok L (hb + 1) 12 ∧ hd_ok L (hb + 6) 16 ∧ ∀ p, p < 4 → L.2 (hb + 11) p = some (hb + 13 + 3 * p) ∧ as_ok L (hb + 13 + 3 * p)
def hs_R (w : pm_W) (hb : Nat) (S : ab_S) : Prop := hd_R w (hb + 1) S.1 ∧ hd_R w (hb + 6) S.2.1 ∧ (∀ p, p < 4 → as_R w (hb + 13 + 3 * p) (S.2.2.1 p)) ∧ (∀ j, 4 ≤ j → j < 10 → w.1 hb j = S.2.2.2.1 j) ∧ w.1 hb 10 = nI S.2.2.2.2.length ∧ ∀ (i : Nat) (x : Int32), S.2.2.2.2[i]? = some x → S.2.2.2.2.length ≤ i + 24 → w.1 (hb + 12) ((i + 1) % 24) = x
theorem hs_R_cong {w w' : pm_W} {hb : Nat} {S : ab_S} (h : hs_R w hb S) (e : ∀ x, hb ≤ x → x < hb + 25 → w'.1 x = w.1 x) : hs_R w' hb S := by
  obtain ⟨h1, h2, h3, h4, h5, h6⟩ := h
  refine ⟨hd_R_cong h1 (fun a q1 q2 => e a (by omega) (by omega)), hd_R_cong h2 (fun a q1 q2 => e a (by omega) (by omega)), fun p hp => as_R_cong (h3 p hp) (fun a q1 q2 => e a (by omega) (by omega)), fun j q1 q2 => ?_, ?_, fun i x q1 q2 => ?_⟩
  · rw [e hb (by omega) (by omega)]; exact h4 j q1 q2
  · rw [e hb (by omega) (by omega)]; exact h5
  · rw [e (hb + 12) (by omega) (by omega)]; exact h6 i x q1 q2
theorem hs_room {w w1 : pm_W} {hb : Nat} {S : ab_S} {l : List ab_E} (h : hs_R w hb S) (hl : hd_R w1 (hb + 1) l) (hf : fr_out w w1 (hb + 1) (hb + 1 + 5)) : hs_R w1 hb (l, S.2) := by
  obtain ⟨h1, h2, h3, h4, h5, h6⟩ := h
  refine ⟨hl, hd_R_cong h2 (fun a q1 q2 => hf.1 a (by omega)), fun p hp => as_R_cong (h3 p hp) (fun a q1 q2 => hf.1 a (by omega)), fun j q1 q2 => ?_, ?_, fun i x q1 q2 => ?_⟩
  · rw [hf.1 hb (by omega)]; exact h4 j q1 q2
  · rw [hf.1 hb (by omega)]; exact h5
  · rw [hf.1 (hb + 12) (by omega)]; exact h6 i x q1 q2
theorem hs_line {w w1 : pm_W} {hb : Nat} {S : ab_S} {l : List ab_E} (h : hs_R w hb S) (hl : hd_R w1 (hb + 6) l) (hf : fr_out w w1 (hb + 6) (hb + 6 + 5)) : hs_R w1 hb (S.1, l, S.2.2) := by
  obtain ⟨h1, h2, h3, h4, h5, h6⟩ := h
  refine ⟨hd_R_cong h1 (fun a q1 q2 => hf.1 a (by omega)), hl, fun p hp => as_R_cong (h3 p hp) (fun a q1 q2 => hf.1 a (by omega)), fun j q1 q2 => ?_, ?_, fun i x q1 q2 => ?_⟩
  · rw [hf.1 hb (by omega)]; exact h4 j q1 q2
  · rw [hf.1 hb (by omega)]; exact h5
  · rw [hf.1 (hb + 12) (by omega)]; exact h6 i x q1 q2
theorem hs_ask {w w1 : pm_W} {hb : Nat} {S : ab_S} {p : Nat} {A : ab_A} (h : hs_R w hb S) (hp : p < 4) (hl : as_R w1 (hb + 13 + 3 * p) A) (hf : fr_out w w1 (hb + 13 + 3 * p) (hb + 13 + 3 * p + 3)) : hs_R w1 hb (S.1, S.2.1, va_up S.2.2.1 p A, S.2.2.2) := by
  obtain ⟨h1, h2, h3, h4, h5, h6⟩ := h
  refine ⟨hd_R_cong h1 (fun a q1 q2 => hf.1 a (by omega)), hd_R_cong h2 (fun a q1 q2 => hf.1 a (by omega)), fun q hq => ?_, fun j q1 q2 => ?_, ?_, fun i x q1 q2 => ?_⟩
  · by_cases hqp : q = p
    · subst hqp
      show as_R w1 _ (va_up S.2.2.1 q A q)
      rw [va_up_self]
      exact hl
    · show as_R w1 _ (va_up S.2.2.1 p A q)
      rw [va_up_ne _ _ hqp]
      exact as_R_cong (h3 q hq) (fun a q1 q2 => hf.1 a (by omega))
  · rw [hf.1 hb (by omega)]; exact h4 j q1 q2
  · rw [hf.1 hb (by omega)]; exact h5
  · rw [hf.1 (hb + 12) (by omega)]; exact h6 i x q1 q2
theorem hs_num {w : pm_W} {hb : Nat} {S : ab_S} {j : Nat} {x : Int32} (h : hs_R w hb S) (q1 : 4 ≤ j) (q2 : j < 10) : hs_R (pm_s w hb (upd (w.1 hb) j x)) hb (S.1, S.2.1, S.2.2.1, upd S.2.2.2.1 j x, S.2.2.2.2) := by
  obtain ⟨h1, h2, h3, h4, h5, h6⟩ := h
  refine ⟨hd_R_cong h1 (fun a q1 q2 => pm_s_ne (by omega)), hd_R_cong h2 (fun a q1 q2 => pm_s_ne (by omega)), fun p hp => as_R_cong (h3 p hp) (fun a q1 q2 => pm_s_ne (by omega)), fun t q1 q2 => ?_, ?_, fun i y q1 q2 => ?_⟩
  · rw [pm_s_at]
    by_cases htj : t = j
    · subst htj; show upd _ _ _ _ = upd _ _ _ _; rw [pk_us, pk_us]
    · show upd _ _ _ _ = upd _ _ _ _; rw [pk_un htj, pk_un htj]; exact h4 t q1 q2
  · rw [pm_s_at, pk_un (by omega)]; exact h5
  · rw [pm_s_ne (by omega)]; exact h6 i y q1 q2
-- what the house does
def ab_mg (rm : List ab_E) (ak : Nat → ab_A) (p : Nat) (e : ab_E) : Bool := e.2.1 == p || decide ((ak e.2.1).1 4 < nI (ab_cnt rm e.2.1))
def ab_gl (rm : List ab_E) (ak : Nat → ab_A) (p : Nat) (e : ab_E) : Bool := ab_mg rm ak p e && ab_lf (ak e.2.1) e.1
/-- the place of the one that goes; the length if none may go -/
def ab_lv (rm : List ab_E) (ak : Nat → ab_A) (p : Nat) : Nat := if rm.findIdx (ab_gl rm ak p) < rm.length then rm.findIdx (ab_gl rm ak p) else rm.findIdx (ab_mg rm ak p)
def ab_arm (m : Nat → Int32) (b : Int32) : Nat → Int32 := upd (upd m 8 (m 8 + ab_abs (b - m 7))) 7 b
def ab_wa (ak : Nat → ab_A) (e : ab_E) : Nat → ab_A := if e.2.2 = 1 then va_up ak e.2.1 (ab_waste (ak e.2.1)) else ak
def ab_ta (ak : Nat → ab_A) (p : Nat) (f : Int32) : Nat → ab_A := if f = 1 then va_up ak p (ab_waste (ak p)) else va_up ak p (ab_inc (ak p) 6)
def ab_serve (S : ab_S) (b : Int32) (p : Nat) (f : Int32) : ab_S × Int32 :=
  if nI S.1.length < S.2.2.2.1 4 then ((S.1 ++ [(b, p, f)], S.2.1, S.2.2.1, ab_arm S.2.2.2.1 b, S.2.2.2.2), 1)
  else if ab_lv S.1 S.2.2.1 p < S.1.length then ((S.1.eraseIdx (ab_lv S.1 S.2.2.1 p) ++ [(b, p, f)], S.2.1, ab_wa S.2.2.1 (S.1.getD (ab_lv S.1 S.2.2.1 p) (0, 0, 0)), ab_arm S.2.2.2.1 b, S.2.2.2.2), 1)
  else ((S.1, S.2.1, ab_ta S.2.2.1 p f, ab_arm S.2.2.2.1 b, S.2.2.2.2), 0)
def ab_sv : Nat → ab_S → ab_S × Int32
  | 0, S => (S, 0)
  | n + 1, S => match ab_nr S.2.1 (S.2.2.2.1 7) S.2.1.length with
    | none => (S, 0)
    | some k =>
      let e := S.2.1.getD k (0, 0, 0)
      let r := ab_serve (S.1, S.2.1.eraseIdx k, va_up S.2.2.1 e.2.1 (ab_inc (S.2.2.1 e.2.1) 3), S.2.2.2.1, S.2.2.2.2) e.1 e.2.1 1
      let r2 := ab_sv n r.1
      (r2.1, r.2 + r2.2)
def ab_tk (S : ab_S) : ab_S := (S.1, S.2.1, S.2.2.1, upd S.2.2.2.1 9 (S.2.2.2.1 9 + 1), S.2.2.2.2)
/-- a tick; with a demanded block, or none -/
def ab_tick (S : ab_S) (n : Nat) (dm : Option (Int32 × Nat)) : ab_S × Int32 := match dm with
  | none => ab_sv n (ab_tk S)
  | some d =>
    let r := ab_serve (ab_tk S) d.1 d.2 0
    let r2 := ab_sv (n - 1) r.1
    (r2.1, r.2 + r2.2)
-- what always holds
def ab_eok (e : ab_E) : Prop := e.2.1 < 4 ∧ 0 ≤ e.1 ∧ e.1 ≤ 63 ∧ (e.2.2 = 0 ∨ e.2.2 = 1)
def ab_aok (A : ab_A) : Prop := (A.1 7 = -1 ∨ (0 ≤ A.1 7 ∧ A.1 7 ≤ 63)) ∧ (∀ j, j < 64 → A.2.2 j = -1 ∨ (0 ≤ A.2.2 j ∧ A.2.2 j ≤ 63)) ∧ (0 ≤ A.1 2 ∧ A.1 2 ≤ 5) ∧ (0 ≤ A.1 3 ∧ A.1 3 ≤ 8) ∧ (A.1 5 = -1 ∨ (0 ≤ A.1 5 ∧ A.1 5 ≤ A.1 6 ∧ A.1 6 ≤ 63 ∧ A.1 2 = 4)) ∧ (A.1 7 = -1 → A.1 8 = 0)
def ab_I (S : ab_S) : Prop := (∃ n, S.2.2.2.1 4 = nI n ∧ 1 ≤ n ∧ n ≤ 12 ∧ S.1.length ≤ n) ∧ S.2.1.length ≤ 16 ∧ (∀ e ∈ S.1, ab_eok e) ∧ (∀ e ∈ S.2.1, ab_eok e) ∧ (0 ≤ S.2.2.2.1 7 ∧ S.2.2.2.1 7 ≤ 63) ∧ (∀ p, p < 4 → ab_aok (S.2.2.1 p)) ∧ (∃ n, S.2.2.2.1 5 = nI n ∧ 1 ≤ n ∧ n ≤ 3) ∧ (∃ n, S.2.2.2.1 6 = nI n ∧ 1 ≤ n ∧ n ≤ 4) ∧ S.2.2.2.2.length ≤ 1000000
theorem aok_waste {A : ab_A} (h : ab_aok A) : ab_aok (ab_waste A) := by
  obtain ⟨h1, h2, h3, h4, h5⟩ := h
  unfold ab_waste
  by_cases hc : A.1 2 = 5
  · simp only [if_pos hc]
    refine ⟨h1, h2, h3, ?_, h5⟩
    show 0 ≤ upd A.1 3 (A.1 3 / 2) 3 ∧ upd A.1 3 (A.1 3 / 2) 3 ≤ 8
    rw [pk_us]
    obtain ⟨j, hj, e⟩ := nI_of2 (n := 8) (M := 8) (by decide) (Int32.not_lt.mpr h4.1) h4.2
    rw [e, show (2 : Int32) = nI 2 from rfl, pk_div (by omega) (by decide) (by decide)]
    exact ⟨nI_pos' (by omega), nI_le (b := 8) (by omega) (by decide)⟩
  · simp only [if_neg hc]
    exact ⟨h1, h2, h3, h4, h5⟩
theorem aok_save {A : ab_A} (h : ab_aok A) : ab_aok (ab_save A) := by
  obtain ⟨h1, h2, h3, h4, h5⟩ := h
  unfold ab_save
  by_cases hc : A.1 2 = 5
  · simp only [if_pos hc]
    refine ⟨h1, h2, h3, ?_, h5⟩
    show 0 ≤ upd A.1 3 (ab_min (A.1 3 + 1) 8) 3 ∧ upd A.1 3 (ab_min (A.1 3 + 1) 8) 3 ≤ 8
    rw [pk_us]
    obtain ⟨j, hj, e⟩ := nI_of2 (n := 8) (M := 8) (by decide) (Int32.not_lt.mpr h4.1) h4.2
    rw [e, nI_1]
    unfold ab_min
    by_cases h9 : (8 : Int32) < nI (j + 1)
    · rw [if_pos h9]; decide
    · rw [if_neg h9]
      exact ⟨nI_pos' (by omega), Int32.not_lt.mp h9⟩
  · simp only [if_neg hc]
    exact ⟨h1, h2, h3, h4, h5⟩
theorem aok_inc {A : ab_A} (h : ab_aok A) (j : Nat) : ab_aok (ab_inc A j) := h
theorem aok_up {ak : Nat → ab_A} {p : Nat} {A : ab_A} (h : ∀ q, q < 4 → ab_aok (ak q)) (hA : ab_aok A) : ∀ q, q < 4 → ab_aok (va_up ak p A q) := by
  intro q hq
  by_cases hqp : q = p
  · subst hqp; rw [va_up_self]; exact hA
  · rw [va_up_ne _ _ hqp]; exact h q hq
theorem lv_le (rm : List ab_E) (ak : Nat → ab_A) (p : Nat) : ab_lv rm ak p ≤ rm.length := by
  unfold ab_lv
  split
  · omega
  · exact List.findIdx_le_length
theorem eok_at {l : List ab_E} (h : ∀ e ∈ l, ab_eok e) {i : Nat} (hi : i < l.length) : ab_eok (l.getD i (0, 0, 0)) := by
  rw [List.getD_eq_getElem?_getD, List.getElem?_eq_getElem hi]
  exact h _ (List.getElem_mem hi)
theorem eok_add {l : List ab_E} (h : ∀ e ∈ l, ab_eok e) {x : ab_E} (hx : ab_eok x) : ∀ e ∈ l ++ [x], ab_eok e := by
  intro e he
  rcases List.mem_append.mp he with he | he
  · exact h e he
  · rw [List.mem_singleton.mp he]; exact hx
theorem eok_rem {l : List ab_E} (h : ∀ e ∈ l, ab_eok e) (i : Nat) : ∀ e ∈ l.eraseIdx i, ab_eok e := fun e he => h e (List.mem_of_mem_eraseIdx he)
theorem arm_at (m : Nat → Int32) (b : Int32) : ab_arm m b 7 = b ∧ ab_arm m b 4 = m 4 ∧ ab_arm m b 5 = m 5 ∧ ab_arm m b 6 = m 6 ∧ ab_arm m b 9 = m 9 := ⟨rfl, rfl, rfl, rfl, rfl⟩
theorem I_serve {S : ab_S} (h : ab_I S) {b : Int32} {p : Nat} {f : Int32} (he : ab_eok (b, p, f)) : ab_I (ab_serve S b p f).1 := by
  obtain ⟨⟨n, e4, n1, n2, n3⟩, h2, h3, h4, h5, h6, h7, h8, h9⟩ := h
  unfold ab_serve
  split
  next hc =>
    rw [e4, nI_ltI (by omega) (by omega)] at hc
    refine ⟨⟨n, e4, n1, n2, by simp; omega⟩, h2, eok_add h3 he, h4, ⟨he.2.1, he.2.2.1⟩, h6, h7, h8, h9⟩
  next hc =>
    split
    next hl =>
      refine ⟨⟨n, e4, n1, n2, ?_⟩, h2, eok_add (eok_rem h3 _) he, h4, ⟨he.2.1, he.2.2.1⟩, ?_, h7, h8, h9⟩
      · simp only [List.length_append, List.length_eraseIdx, if_pos hl, List.length_singleton]
        omega
      · show ∀ q, q < 4 → ab_aok (ab_wa _ _ q)
        unfold ab_wa
        split
        · exact aok_up h6 (aok_waste (h6 _ (eok_at h3 hl).1))
        · exact h6
    next hl =>
      refine ⟨⟨n, e4, n1, n2, n3⟩, h2, h3, h4, ⟨he.2.1, he.2.2.1⟩, ?_, h7, h8, h9⟩
      show ∀ q, q < 4 → ab_aok (ab_ta _ _ _ q)
      unfold ab_ta
      split
      · exact aok_up h6 (aok_waste (h6 _ he.1))
      · exact aok_up h6 (aok_inc (h6 _ he.1) 6)
theorem I_sv : ∀ {n : Nat} {S : ab_S}, ab_I S → ab_I (ab_sv n S).1
  | 0, S, h => h
  | n + 1, S, h => by
    unfold ab_sv
    split
    next => exact h
    next k hk =>
      have hk2 := ab_nr_lt hk
      obtain ⟨h1, h2, h3, h4, h5, h6, h7, h8, h9⟩ := h
      have hek := eok_at h4 hk2
      have hI : ab_I (S.1, S.2.1.eraseIdx k, va_up S.2.2.1 (S.2.1.getD k (0, 0, 0)).2.1 (ab_inc (S.2.2.1 (S.2.1.getD k (0, 0, 0)).2.1) 3), S.2.2.2.1, S.2.2.2.2) := by
        refine ⟨h1, ?_, h3, eok_rem h4 _, h5, aok_up h6 (aok_inc (h6 _ hek.1) 3), h7, h8, h9⟩
        show (S.2.1.eraseIdx k).length ≤ 16
        rw [List.length_eraseIdx, if_pos hk2]
        omega
      have hV := I_serve hI (b := (S.2.1.getD k (0, 0, 0)).1) (p := (S.2.1.getD k (0, 0, 0)).2.1) (f := 1) ⟨hek.1, hek.2.1, hek.2.2.1, Or.inr rfl⟩
      exact I_sv (n := n) hV
theorem I_tk {S : ab_S} (h : ab_I S) : ab_I (ab_tk S) := h
theorem I_tick {S : ab_S} (h : ab_I S) {n : Nat} {dm : Option (Int32 × Nat)} (hd : ∀ d, dm = some d → ab_eok (d.1, d.2, 0)) : ab_I (ab_tick S n dm).1 := by
  cases dm with
  | none => exact I_sv (I_tk h)
  | some d => exact I_sv (I_serve (I_tk h) (hd d rfl))
theorem far_lt {b a : Int32} (hb : 0 ≤ b ∧ b ≤ 63) (ha : 0 ≤ a ∧ a ≤ 63) : ab_abs (b - a) < 64 := by
  obtain ⟨j, hj, rfl⟩ := nI_of2 (n := 63) (M := 63) (by decide) (Int32.not_lt.mpr hb.1) hb.2
  obtain ⟨i, hi, rfl⟩ := nI_of2 (n := 63) (M := 63) (by decide) (Int32.not_lt.mpr ha.1) ha.2
  have h1 : (nI j - nI i).toInt = (j : Int) - i := pk_sub_toInt (by omega) (by omega)
  unfold ab_abs
  have h64 : (64 : Int32).toInt = 64 := by decide
  have h0 : (0 : Int32).toInt = 0 := by decide
  split
  next h => rw [Int32.lt_iff_toInt_lt, h1, h64]; omega
  next h =>
    rw [Int32.le_iff_toInt_le, h1, h0] at h
    rw [Int32.lt_iff_toInt_lt, Int32.toInt_neg, h1, h64]
    have : (-((j : Int) - i)).bmod (2 ^ 32) = -((j : Int) - i) := by
      rw [Int.bmod_eq_of_le] <;> omega
    omega
end
section
theorem as_inc {w : pm_W} {a : Nat} {A : ab_A} (h : as_R w a A) (j : Nat) : as_R (pm_s w (a + 1) (upd (w.1 (a + 1)) j (w.1 (a + 1) j + 1))) a (ab_inc A j) := by
  obtain ⟨h1, h2, h3⟩ := h
  refine ⟨fun t q1 q2 => by rw [pm_s_ne (by omega)]; exact h1 t q1 q2, fun t q => ?_, fun t q => by rw [pm_s_ne (by omega)]; exact h3 t q⟩
  rw [pm_s_at]
  by_cases ht : t = j
  · subst ht
    rw [pk_us]
    show _ = upd A.2.1 t (A.2.1 t + 1) t
    rw [pk_us, h2 t q]
  · rw [pk_un ht]
    show _ = upd A.2.1 j (A.2.1 j + 1) t
    rw [pk_un ht]
    exact h2 t q

set_option maxRecDepth 4000 in
theorem c_X3_turnAway {L : pm_L} {hb : Nat} (hk : hs_ok L hb) {w : pm_W} {S : ab_S} (hR : hs_R w hb S) (hI : ab_I S) {p : Nat} (hp : p < 4) (f : Int32) : pm_C L MX3_turnAway [.ref hb, .int (nI p), .int f] w (pm_qv fun w1 => hs_R w1 hb (S.1, S.2.1, ab_ta S.2.2.1 p f, S.2.2.2) ∧ fr_out w w1 hb (hb + 25)) := by
  obtain ⟨e1, e2, e3, e4, e5, e6, e7, hdr, hdl, hap⟩ := id hk
  obtain ⟨r1, r2, r3, r4, r5, r6, r7, r8, r9⟩ := id hdr
  obtain ⟨l1, l2, l3, l4, l5, l6, l7, l8, l9⟩ := id hdl
  obtain ⟨g1, g2, g3, g4, g5, g6⟩ := id hR
  obtain ⟨⟨sp, i1, i2, i3, i4⟩, i5, i6, i7, i8, i9, i10, i11, i12⟩ := id hI
  obtain ⟨ha0, ⟨a1, a2, a3, a4, a5⟩⟩ := hap p hp
  refine pm_start (lv := [some (.ref _), some (.int _), some (.int _)]) (plainFor_of_name pf3) (Nat.le_of_ble_eq_true rfl) rfl ?_
  refine pm_iload_n dX3_turnAway_0 rfl ?_
  refine pm_iconst (x := 1) dX3_turnAway_1 rfl ?_
  refine pm_icmp_ne (tgt := 17) dX3_turnAway_2 (by decide) (fun c2 => ?_) (fun c2 => ?_)
  · refine pm_aload_n dX3_turnAway_17 rfl ?_
    refine pm_getR (ci := 3) (j := 2) (n := 11) (by first | assumption | rfl) (by decide) (by decide) rfl fl_RX3_25 rfl (by first | assumption | rfl) dX3_turnAway_18 ?_
    refine pm_iload_n dX3_turnAway_21 rfl ?_
    refine pm_kaldN (by first | assumption | rfl) (by first | assumption | omega | decide) (by first | decide | omega) (by first | assumption | rfl) dX3_turnAway_22 ?_
    refine pm_getR (ci := 0) (j := 0) (n := 10) (by first | assumption | rfl) (by decide) (by decide) rfl fl_RX3_82 rfl (by first | assumption | rfl) dX3_turnAway_23 ?_
    refine pm_bipush (x := nI 6) dX3_turnAway_26 rfl ?_
    refine pm_dup2 dX3_turnAway_28 rfl rfl ?_
    refine pm_ialdN (by first | assumption | rfl) (by first | assumption | omega | decide) (by first | decide | omega) dX3_turnAway_29 ?_
    refine pm_iconst (x := 1) dX3_turnAway_30 rfl ?_
    refine pm_iadd dX3_turnAway_31 ?_
    refine pm_iastN (by first | assumption | rfl) (by first | assumption | omega | decide) (by first | decide | omega) dX3_turnAway_32 ?_
    refine pm_vret dX3_turnAway_33 rfl ?_
    refine ⟨?_, fr_s (by omega) (by omega)⟩
    rw [ab_ta, if_neg c2]
    exact hs_ask hR hp (as_inc (g3 p hp) 6) (fr_s (by omega) (by omega))
  · refine pm_aload_n dX3_turnAway_5 rfl ?_
    refine pm_getR (ci := 3) (j := 2) (n := 11) (by first | assumption | rfl) (by decide) (by decide) rfl fl_RX3_25 rfl (by first | assumption | rfl) dX3_turnAway_6 ?_
    refine pm_iload_n dX3_turnAway_9 rfl ?_
    refine pm_kaldN (by first | assumption | rfl) (by first | assumption | omega | decide) (by first | decide | omega) (by first | assumption | rfl) dX3_turnAway_10 ?_
    refine pm_cVv (as := []) (by first | assumption | rfl) (by decide) rfl ml_RX3_157 (by decide) (Nat.le_of_ble_eq_true rfl) dX3_turnAway_11 (c_X0_countWasted (hap p hp).2 (g3 p hp)) (fun w1 hq => ?_)
    obtain ⟨q1, -, q3⟩ := hq
    refine pm_goto (tgt := 33) dX3_turnAway_14 (by decide) ?_
    refine pm_vret dX3_turnAway_33 rfl ?_
    refine ⟨?_, fr_wd q3 (by omega) (by omega)⟩
    rw [ab_ta, if_pos c2]
    exact hs_ask hR hp q1 q3

set_option maxRecDepth 4000 in
theorem c_X3_letGo {L : pm_L} {hb : Nat} (hk : hs_ok L hb) {w : pm_W} {S : ab_S} (hR : hs_R w hb S) (hI : ab_I S) {i : Nat} {e : ab_E} (hi : S.1[i]? = some e) : pm_C L MX3_letGo [.ref hb, .int (nI i)] w (pm_qv fun w1 => hs_R w1 hb (S.1.eraseIdx i, S.2.1, ab_wa S.2.2.1 e, S.2.2.2) ∧ fr_out w w1 hb (hb + 25)) := by
  obtain ⟨e1, e2, e3, e4, e5, e6, e7, hdr, hdl, hap⟩ := id hk
  obtain ⟨r1, r2, r3, r4, r5, r6, r7, r8, r9⟩ := id hdr
  obtain ⟨l1, l2, l3, l4, l5, l6, l7, l8, l9⟩ := id hdl
  obtain ⟨g1, g2, g3, g4, g5, g6⟩ := id hR
  obtain ⟨⟨sp, i1, i2, i3, i4⟩, i5, i6, i7, i8, i9, i10, i11, i12⟩ := id hI
  have hil : i < S.1.length := (List.getElem?_eq_some_iff.mp hi).1
  have heo := i6 e (List.mem_of_getElem? hi)
  have heo4 : e.2.1 < 4 := heo.1
  obtain ⟨ha0, ⟨a1, a2, a3, a4, a5⟩⟩ := hap e.2.1 heo.1
  have hgi := g1.2.1 i e hi
  refine pm_start (lv := [some (.ref _), some (.int _)]) (plainFor_of_name pf3) (Nat.le_of_ble_eq_true rfl) rfl ?_
  refine pm_aload_n dX3_letGo_0 rfl ?_
  refine pm_getR (ci := 3) (j := 0) (n := 11) (by first | assumption | rfl) (by decide) (by decide) rfl fl_RX3_14 rfl (by first | assumption | rfl) dX3_letGo_1 ?_
  refine pm_getR (ci := 2) (j := 2) (n := 5) (by first | assumption | rfl) (by decide) (by decide) rfl fl_RX3_111 rfl (by first | assumption | rfl) dX3_letGo_4 ?_
  refine pm_iload_n dX3_letGo_7 rfl ?_
  refine pm_ialdN (by first | assumption | rfl) (by first | assumption | omega | decide) (by first | decide | omega) dX3_letGo_8 ?_
  rw [hgi.2.2]
  refine pm_iconst (x := 1) dX3_letGo_9 rfl ?_
  refine pm_icmp_ne (tgt := 30) dX3_letGo_10 (by decide) (fun c10 => ?_) (fun c10 => ?_)
  · refine pm_aload_n dX3_letGo_30 rfl ?_
    refine pm_getR (ci := 3) (j := 0) (n := 11) (by first | assumption | rfl) (by decide) (by decide) rfl fl_RX3_14 rfl (by first | assumption | rfl) dX3_letGo_31 ?_
    refine pm_iload_n dX3_letGo_34 rfl ?_
    refine pm_cVv (as := [.int _]) (by first | assumption | rfl) (by decide) rfl ml_RX3_117 (by decide) (Nat.le_of_ble_eq_true rfl) dX3_letGo_35 (c_X2_remove hdr (by decide) (l := S.1) g1 (by omega) hi heo.1) (fun w1 hq => ?_)
    obtain ⟨p1, p2⟩ := hq
    refine pm_vret dX3_letGo_38 rfl ?_
    refine ⟨?_, fr_wd p2 (by omega) (by omega)⟩
    rw [ab_wa, if_neg c10]
    exact hs_room hR p1 p2
  · refine pm_aload_n dX3_letGo_13 rfl ?_
    refine pm_getR (ci := 3) (j := 2) (n := 11) (by first | assumption | rfl) (by decide) (by decide) rfl fl_RX3_25 rfl (by first | assumption | rfl) dX3_letGo_14 ?_
    refine pm_aload_n dX3_letGo_17 rfl ?_
    refine pm_getR (ci := 3) (j := 0) (n := 11) (by first | assumption | rfl) (by decide) (by decide) rfl fl_RX3_14 rfl (by first | assumption | rfl) dX3_letGo_18 ?_
    refine pm_getR (ci := 2) (j := 1) (n := 5) (by first | assumption | rfl) (by decide) (by decide) rfl fl_RX3_108 rfl (by first | assumption | rfl) dX3_letGo_21 ?_
    refine pm_iload_n dX3_letGo_24 rfl ?_
    refine pm_ialdN (by first | assumption | rfl) (by first | assumption | omega | decide) (by first | decide | omega) dX3_letGo_25 ?_
    rw [hgi.2.1]
    refine pm_kaldN (by first | assumption | rfl) (by first | assumption | omega | decide) (by first | decide | omega) (by first | assumption | rfl) dX3_letGo_26 ?_
    refine pm_cVv (as := []) (by first | assumption | rfl) (by decide) rfl ml_RX3_157 (by decide) (Nat.le_of_ble_eq_true rfl) dX3_letGo_27 (c_X0_countWasted (hap e.2.1 heo.1).2 (g3 e.2.1 heo.1)) (fun w1 hq => ?_)
    obtain ⟨q1, -, q3⟩ := hq
    have hR2 := hs_ask hR heo.1 q1 q3
    refine pm_aload_n dX3_letGo_30 rfl ?_
    refine pm_getR (ci := 3) (j := 0) (n := 11) (by first | assumption | rfl) (by decide) (by decide) rfl fl_RX3_14 rfl (by first | assumption | rfl) dX3_letGo_31 ?_
    refine pm_iload_n dX3_letGo_34 rfl ?_
    refine pm_cVv (as := [.int _]) (by first | assumption | rfl) (by decide) rfl ml_RX3_117 (by decide) (Nat.le_of_ble_eq_true rfl) dX3_letGo_35 (c_X2_remove hdr (by decide) (l := S.1) hR2.1 (by omega) hi heo.1) (fun w1 hq => ?_)
    obtain ⟨p1, p2⟩ := hq
    refine pm_vret dX3_letGo_38 rfl ?_
    refine ⟨?_, fr_tr (fr_wd q3 (by omega) (by omega)) (fr_wd p2 (by omega) (by omega))⟩
    rw [ab_wa, if_pos c10]
    exact hs_room hR2 p1 p2

theorem lv_first {l : List ab_E} {f : ab_E → Bool} {i : Nat} {e : ab_E} (hi : l[i]? = some e) (hf : f e = true) (hno : ∀ (j : Nat) (x : ab_E), j < i → l[j]? = some x → f x = false) : l.findIdx f = i := by
  have hl := (List.getElem?_eq_some_iff.mp hi).1
  rw [List.findIdx_eq hl]
  refine ⟨?_, fun j hj => ?_⟩
  · rw [(List.getElem?_eq_some_iff.mp hi).2]; exact hf
  · exact hno j _ hj (List.getElem?_eq_getElem (by omega))
theorem lv_none {l : List ab_E} {f : ab_E → Bool} (hno : ∀ (j : Nat) (x : ab_E), j < l.length → l[j]? = some x → f x = false) : l.findIdx f = l.length := by
  rw [List.findIdx_eq_length]
  intro x hx
  obtain ⟨j, hj⟩ := List.getElem?_of_mem hx
  exact hno j x (List.getElem?_eq_some_iff.mp hj).1 hj
theorem no_succ {l : List ab_E} {f : ab_E → Bool} {i : Nat} {e : ab_E} (h : ∀ (j : Nat) (x : ab_E), j < i → l[j]? = some x → f x = false) (hi : l[i]? = some e) (hf : f e = false) : ∀ (j : Nat) (x : ab_E), j < i + 1 → l[j]? = some x → f x = false := by
  intro j x hj hx
  by_cases hji : j = i
  · subst hji
    rw [hi] at hx
    cases hx
    exact hf
  · exact h j x (by omega) hx
set_option maxRecDepth 4000 in
theorem c_X3_leaver {L : pm_L} {hb : Nat} (hk : hs_ok L hb) {w : pm_W} {S : ab_S} (hR : hs_R w hb S) (hI : ab_I S) {p : Nat} (hp : p < 4) : pm_C L MX3_leaver [.ref hb, .int (nI p)] w (pm_qi fun r w1 => r = ab_enc (ab_lv S.1 S.2.2.1 p) S.1.length ∧ w1 = w) := by
  obtain ⟨e1, e2, e3, e4, e5, e6, e7, hdr, hdl, hap⟩ := id hk
  obtain ⟨r1, r2, r3, r4, r5, r6, r7, r8, r9⟩ := id hdr
  obtain ⟨l1, l2, l3, l4, l5, l6, l7, l8, l9⟩ := id hdl
  obtain ⟨g1, g2, g3, g4, g5, g6⟩ := id hR
  obtain ⟨⟨sp, i1, i2, i3, i4⟩, i5, i6, i7, i8, i9, i10, i11, i12⟩ := id hI
  have loop : ∀ i, i ≤ S.1.length → ∀ o : Int32, (∀ (j : Nat) (e : ab_E), j < i → S.1[j]? = some e → ab_gl S.1 S.2.2.1 p e = false) ∧ ((o = -1 ∧ ∀ (j : Nat) (e : ab_E), j < i → S.1[j]? = some e → ab_mg S.1 S.2.2.1 p e = false) ∨ ∃ (k : Nat) (x : ab_E), k < i ∧ o = nI k ∧ S.1[k]? = some x ∧ ab_mg S.1 S.2.2.1 p x = true ∧ ∀ (j : Nat) (e : ab_E), j < k → S.1[j]? = some e → ab_mg S.1 S.2.2.1 p e = false) → pm_R L MX3_leaver 4 [some (.ref hb), some (.int (nI p)), some (.int o), some (.int (nI i)), none] [] w (pm_qi fun r w1 => r = ab_enc (ab_lv S.1 S.2.2.1 p) S.1.length ∧ w1 = w) := by
    refine up_loop S.1.length (fun i hi ih o hinv => ?_)
    obtain ⟨h1, h2⟩ := hinv
    refine pm_iload_n dX3_leaver_4 rfl ?_
    refine pm_aload_n dX3_leaver_5 rfl ?_
    refine pm_getR (ci := 3) (j := 0) (n := 11) (by first | assumption | rfl) (by decide) (by decide) rfl fl_RX3_14 rfl (by first | assumption | rfl) dX3_leaver_6 ?_
    refine pm_getI (ci := 2) (j := 4) (n := 5) (by first | assumption | rfl) (by decide) (by decide) rfl fl_RX3_135 rfl dX3_leaver_9 ?_
    rw [g1.1]
    refine pm_icmp_ge (tgt := 92) dX3_leaver_12 (by decide) (fun c12 => ?_) (fun c12 => ?_)
    · refine pm_iload_n dX3_leaver_92 rfl ?_
      refine pm_iret dX3_leaver_93 rfl ?_
      rw [nI_leI (by omega) (by omega)] at c12
      have hi2 : i = S.1.length := by omega
      subst hi2
      refine ⟨?_, rfl⟩
      have hf := lv_none h1
      rw [ab_lv, hf, if_neg (by omega)]
      rcases h2 with ⟨h2, h3⟩ | ⟨k, x, k1, k2, k3, k4, k5⟩
      · rw [lv_none h3, ab_enc, if_neg (by omega)]; exact h2
      · rw [lv_first k3 k4 k5, ab_enc, if_pos k1]; exact k2
    · have hlt : i < S.1.length := by
        rw [nI_leI (by omega) (by omega)] at c12
        omega
      have hei : S.1[i]? = some S.1[i] := List.getElem?_eq_getElem hlt
      generalize S.1[i] = e at hei
      have heo := i6 e (List.mem_of_getElem? hei)
      have heo4 : e.2.1 < 4 := heo.1
      obtain ⟨ha0, ⟨a1, a2, a3, a4, a5⟩⟩ := hap e.2.1 heo.1
      have hgi := g1.2.1 i e hei
      refine pm_aload_n dX3_leaver_15 rfl ?_
      refine pm_getR (ci := 3) (j := 0) (n := 11) (by first | assumption | rfl) (by decide) (by decide) rfl fl_RX3_14 rfl (by first | assumption | rfl) dX3_leaver_16 ?_
      refine pm_getR (ci := 2) (j := 1) (n := 5) (by first | assumption | rfl) (by decide) (by decide) rfl fl_RX3_108 rfl (by first | assumption | rfl) dX3_leaver_19 ?_
      refine pm_iload_n dX3_leaver_22 rfl ?_
      refine pm_ialdN (by first | assumption | rfl) (by first | assumption | omega | decide) (by first | decide | omega) dX3_leaver_23 ?_
      rw [hgi.2.1]
      refine pm_istore (lv' := [some (.ref _), some (.int _), some (.int _), some (.int _), some (.int _)]) dX3_leaver_24 (by decide) rfl ?_
      refine pm_iload dX3_leaver_26 rfl ?_
      refine pm_iload_n dX3_leaver_28 rfl ?_
      refine pm_icmp_eq (tgt := 55) dX3_leaver_29 (by decide) (fun c29 => ?_) (fun c29 => ?_)
      · refine pm_aload_n dX3_leaver_55 rfl ?_
        refine pm_getR (ci := 3) (j := 2) (n := 11) (by first | assumption | rfl) (by decide) (by decide) rfl fl_RX3_25 rfl (by first | assumption | rfl) dX3_leaver_56 ?_
        refine pm_iload dX3_leaver_59 rfl ?_
        refine pm_kaldN (by first | assumption | rfl) (by first | assumption | omega | decide) (by first | decide | omega) (by first | assumption | rfl) dX3_leaver_61 ?_
        refine pm_aload_n dX3_leaver_62 rfl ?_
        refine pm_getR (ci := 3) (j := 0) (n := 11) (by first | assumption | rfl) (by decide) (by decide) rfl fl_RX3_14 rfl (by first | assumption | rfl) dX3_leaver_63 ?_
        refine pm_getR (ci := 2) (j := 0) (n := 5) (by first | assumption | rfl) (by decide) (by decide) rfl fl_RX3_105 rfl (by first | assumption | rfl) dX3_leaver_66 ?_
        refine pm_iload_n dX3_leaver_69 rfl ?_
        refine pm_ialdN (by first | assumption | rfl) (by first | assumption | omega | decide) (by first | decide | omega) dX3_leaver_70 ?_
        rw [hgi.1]
        refine pm_cVi (as := [.int _]) (by first | assumption | rfl) (by decide) rfl ml_RX3_153 (by decide) (Nat.le_of_ble_eq_true rfl) dX3_leaver_71 (c_X0_hasLeft (hap e.2.1 heo.1).2 (g3 e.2.1 heo.1) _) (fun x1 w1 hq => ?_)
        obtain ⟨rfl, rfl⟩ := hq
        refine pm_if_eq (tgt := 79) dX3_leaver_74 (by decide) (fun c74 => ?_) (fun c74 => ?_)
        · refine pm_iload_n dX3_leaver_79 rfl ?_
          refine pm_iconst (x := -1) dX3_leaver_80 rfl ?_
          refine pm_icmp_ne (tgt := 86) dX3_leaver_81 (by decide) (fun c81 => ?_) (fun c81 => ?_)
          · refine pm_iinc (y := _ + 1) (lv' := [some (.ref _), some (.int _), some (.int _), some (.int _), some (.int _)]) dX3_leaver_86 rfl rfl (by decide) rfl ?_
            refine pm_goto (tgt := 4) dX3_leaver_89 (by decide) ?_
            refine pm_fg (lv' := [some (.ref _), some (.int _), some (.int _), some (.int _), none]) (pm_le_k rfl (pm_le_k rfl (pm_le_k rfl (pm_le_k rfl (pm_le_n pm_le_0))))) ?_
            have hmg : ab_mg S.1 S.2.2.1 p e = true := by
              have := (nI_eq (by omega) (by omega)).mp c29
              simp [ab_mg, this]
            rw [pm_z_0] at c74
            have hgl : ab_gl S.1 S.2.2.1 p e = false := by
              rw [ab_gl, c74, Bool.and_false]
            rw [nI_1]
            refine ih hlt _ ⟨no_succ h1 hei hgl, ?_⟩
            rcases h2 with ⟨h2, h3⟩ | ⟨k, x, k1, k2, k3, k4, k5⟩
            · exact absurd h2 c81
            · exact Or.inr ⟨k, x, by omega, k2, k3, k4, k5⟩
          · refine pm_iload_n dX3_leaver_84 rfl ?_
            refine pm_istore_n (lv' := [some (.ref _), some (.int _), some (.int _), some (.int _), some (.int _)]) dX3_leaver_85 (by decide) rfl ?_
            refine pm_iinc (y := _ + 1) (lv' := [some (.ref _), some (.int _), some (.int _), some (.int _), some (.int _)]) dX3_leaver_86 rfl rfl (by decide) rfl ?_
            refine pm_goto (tgt := 4) dX3_leaver_89 (by decide) ?_
            refine pm_fg (lv' := [some (.ref _), some (.int _), some (.int _), some (.int _), none]) (pm_le_k rfl (pm_le_k rfl (pm_le_k rfl (pm_le_k rfl (pm_le_n pm_le_0))))) ?_
            have hmg : ab_mg S.1 S.2.2.1 p e = true := by
              have := (nI_eq (by omega) (by omega)).mp c29
              simp [ab_mg, this]
            rw [pm_z_0] at c74
            have hgl : ab_gl S.1 S.2.2.1 p e = false := by
              rw [ab_gl, c74, Bool.and_false]
            rw [nI_1]
            refine ih hlt _ ⟨no_succ h1 hei hgl, ?_⟩
            rcases h2 with ⟨h2, h3⟩ | ⟨k, x, k1, k2, k3, k4, k5⟩
            · exact Or.inr ⟨i, e, by omega, rfl, hei, hmg, h3⟩
            · exact absurd (k2.symm.trans c81) (nI_ne_m1 (by omega))
        · refine pm_iload_n dX3_leaver_77 rfl ?_
          refine pm_iret dX3_leaver_78 rfl ?_
          have hmg : ab_mg S.1 S.2.2.1 p e = true := by
            have := (nI_eq (by omega) (by omega)).mp c29
            simp [ab_mg, this]
          rw [pm_z_1] at c74
          have hgl : ab_gl S.1 S.2.2.1 p e = true := by
            rw [ab_gl, hmg, c74]; rfl
          refine ⟨?_, rfl⟩
          have hf := lv_first hei hgl h1
          have : ab_lv S.1 S.2.2.1 p = i := by rw [ab_lv, hf, if_pos hlt]
          rw [this, ab_enc, if_pos hlt]
      · refine pm_aload_n dX3_leaver_32 rfl ?_
        refine pm_getR (ci := 3) (j := 0) (n := 11) (by first | assumption | rfl) (by decide) (by decide) rfl fl_RX3_14 rfl (by first | assumption | rfl) dX3_leaver_33 ?_
        refine pm_getR (ci := 2) (j := 3) (n := 5) (by first | assumption | rfl) (by decide) (by decide) rfl fl_RX3_147 rfl (by first | assumption | rfl) dX3_leaver_36 ?_
        refine pm_iload dX3_leaver_39 rfl ?_
        refine pm_ialdN (by first | assumption | rfl) (by first | assumption | omega | decide) (by first | decide | omega) dX3_leaver_41 ?_
        rw [g1.2.2 e.2.1 heo.1]
        refine pm_aload_n dX3_leaver_42 rfl ?_
        refine pm_getR (ci := 3) (j := 2) (n := 11) (by first | assumption | rfl) (by decide) (by decide) rfl fl_RX3_25 rfl (by first | assumption | rfl) dX3_leaver_43 ?_
        refine pm_iload dX3_leaver_46 rfl ?_
        refine pm_kaldN (by first | assumption | rfl) (by first | assumption | omega | decide) (by first | decide | omega) (by first | assumption | rfl) dX3_leaver_48 ?_
        refine pm_getI (ci := 0) (j := 4) (n := 10) (by first | assumption | rfl) (by decide) (by decide) rfl fl_RX3_150 rfl dX3_leaver_49 ?_
        rw [(g3 e.2.1 heo.1).1 4 (by decide) (by decide)]
        refine pm_icmp_le (tgt := 86) dX3_leaver_52 (by decide) (fun c52 => ?_) (fun c52 => ?_)
        · refine pm_iinc (y := _ + 1) (lv' := [some (.ref _), some (.int _), some (.int _), some (.int _), some (.int _)]) dX3_leaver_86 rfl rfl (by decide) rfl ?_
          refine pm_goto (tgt := 4) dX3_leaver_89 (by decide) ?_
          refine pm_fg (lv' := [some (.ref _), some (.int _), some (.int _), some (.int _), none]) (pm_le_k rfl (pm_le_k rfl (pm_le_k rfl (pm_le_k rfl (pm_le_n pm_le_0))))) ?_
          have hmg : ab_mg S.1 S.2.2.1 p e = false := by
            have q1 : ¬ e.2.1 = p := fun h => c29 (by rw [h])
            have q2 := Int32.not_lt.mpr c52
            simp [ab_mg, q1, q2]
          have hgl : ab_gl S.1 S.2.2.1 p e = false := by
            rw [ab_gl, hmg]; rfl
          rw [nI_1]
          refine ih hlt _ ⟨no_succ h1 hei hgl, ?_⟩
          rcases h2 with ⟨h2, h3⟩ | ⟨k, x, k1, k2, k3, k4, k5⟩
          · exact Or.inl ⟨h2, no_succ h3 hei hmg⟩
          · exact Or.inr ⟨k, x, by omega, k2, k3, k4, k5⟩
        · refine pm_aload_n dX3_leaver_55 rfl ?_
          refine pm_getR (ci := 3) (j := 2) (n := 11) (by first | assumption | rfl) (by decide) (by decide) rfl fl_RX3_25 rfl (by first | assumption | rfl) dX3_leaver_56 ?_
          refine pm_iload dX3_leaver_59 rfl ?_
          refine pm_kaldN (by first | assumption | rfl) (by first | assumption | omega | decide) (by first | decide | omega) (by first | assumption | rfl) dX3_leaver_61 ?_
          refine pm_aload_n dX3_leaver_62 rfl ?_
          refine pm_getR (ci := 3) (j := 0) (n := 11) (by first | assumption | rfl) (by decide) (by decide) rfl fl_RX3_14 rfl (by first | assumption | rfl) dX3_leaver_63 ?_
          refine pm_getR (ci := 2) (j := 0) (n := 5) (by first | assumption | rfl) (by decide) (by decide) rfl fl_RX3_105 rfl (by first | assumption | rfl) dX3_leaver_66 ?_
          refine pm_iload_n dX3_leaver_69 rfl ?_
          refine pm_ialdN (by first | assumption | rfl) (by first | assumption | omega | decide) (by first | decide | omega) dX3_leaver_70 ?_
          rw [hgi.1]
          refine pm_cVi (as := [.int _]) (by first | assumption | rfl) (by decide) rfl ml_RX3_153 (by decide) (Nat.le_of_ble_eq_true rfl) dX3_leaver_71 (c_X0_hasLeft (hap e.2.1 heo.1).2 (g3 e.2.1 heo.1) _) (fun x1 w1 hq => ?_)
          obtain ⟨rfl, rfl⟩ := hq
          refine pm_if_eq (tgt := 79) dX3_leaver_74 (by decide) (fun c74 => ?_) (fun c74 => ?_)
          · refine pm_iload_n dX3_leaver_79 rfl ?_
            refine pm_iconst (x := -1) dX3_leaver_80 rfl ?_
            refine pm_icmp_ne (tgt := 86) dX3_leaver_81 (by decide) (fun c81 => ?_) (fun c81 => ?_)
            · refine pm_iinc (y := _ + 1) (lv' := [some (.ref _), some (.int _), some (.int _), some (.int _), some (.int _)]) dX3_leaver_86 rfl rfl (by decide) rfl ?_
              refine pm_goto (tgt := 4) dX3_leaver_89 (by decide) ?_
              refine pm_fg (lv' := [some (.ref _), some (.int _), some (.int _), some (.int _), none]) (pm_le_k rfl (pm_le_k rfl (pm_le_k rfl (pm_le_k rfl (pm_le_n pm_le_0))))) ?_
              have hmg : ab_mg S.1 S.2.2.1 p e = true := by
                have := Int32.not_le.mp c52
                simp [ab_mg, this]
              rw [pm_z_0] at c74
              have hgl : ab_gl S.1 S.2.2.1 p e = false := by
                rw [ab_gl, c74, Bool.and_false]
              rw [nI_1]
              refine ih hlt _ ⟨no_succ h1 hei hgl, ?_⟩
              rcases h2 with ⟨h2, h3⟩ | ⟨k, x, k1, k2, k3, k4, k5⟩
              · exact absurd h2 c81
              · exact Or.inr ⟨k, x, by omega, k2, k3, k4, k5⟩
            · refine pm_iload_n dX3_leaver_84 rfl ?_
              refine pm_istore_n (lv' := [some (.ref _), some (.int _), some (.int _), some (.int _), some (.int _)]) dX3_leaver_85 (by decide) rfl ?_
              refine pm_iinc (y := _ + 1) (lv' := [some (.ref _), some (.int _), some (.int _), some (.int _), some (.int _)]) dX3_leaver_86 rfl rfl (by decide) rfl ?_
              refine pm_goto (tgt := 4) dX3_leaver_89 (by decide) ?_
              refine pm_fg (lv' := [some (.ref _), some (.int _), some (.int _), some (.int _), none]) (pm_le_k rfl (pm_le_k rfl (pm_le_k rfl (pm_le_k rfl (pm_le_n pm_le_0))))) ?_
              have hmg : ab_mg S.1 S.2.2.1 p e = true := by
                have := Int32.not_le.mp c52
                simp [ab_mg, this]
              rw [pm_z_0] at c74
              have hgl : ab_gl S.1 S.2.2.1 p e = false := by
                rw [ab_gl, c74, Bool.and_false]
              rw [nI_1]
              refine ih hlt _ ⟨no_succ h1 hei hgl, ?_⟩
              rcases h2 with ⟨h2, h3⟩ | ⟨k, x, k1, k2, k3, k4, k5⟩
              · exact Or.inr ⟨i, e, by omega, rfl, hei, hmg, h3⟩
              · exact absurd (k2.symm.trans c81) (nI_ne_m1 (by omega))
          · refine pm_iload_n dX3_leaver_77 rfl ?_
            refine pm_iret dX3_leaver_78 rfl ?_
            have hmg : ab_mg S.1 S.2.2.1 p e = true := by
              have := Int32.not_le.mp c52
              simp [ab_mg, this]
            rw [pm_z_1] at c74
            have hgl : ab_gl S.1 S.2.2.1 p e = true := by
              rw [ab_gl, hmg, c74]; rfl
            refine ⟨?_, rfl⟩
            have hf := lv_first hei hgl h1
            have : ab_lv S.1 S.2.2.1 p = i := by rw [ab_lv, hf, if_pos hlt]
            rw [this, ab_enc, if_pos hlt]
  refine pm_start (lv := [some (.ref _), some (.int _), none, none, none]) (plainFor_of_name pf3) (Nat.le_of_ble_eq_true rfl) rfl ?_
  refine pm_iconst (x := -1) dX3_leaver_0 rfl ?_
  refine pm_istore_n (lv' := [some (.ref _), some (.int _), some (.int _), none, none]) dX3_leaver_1 (by decide) rfl ?_
  refine pm_iconst (x := 0) dX3_leaver_2 rfl ?_
  refine pm_istore_n (lv' := [some (.ref _), some (.int _), some (.int _), some (.int _), none]) dX3_leaver_3 (by decide) rfl ?_
  exact loop 0 (Nat.zero_le _) (-1) ⟨fun j e hj => absurd hj (by omega), Or.inl ⟨rfl, fun j e hj => absurd hj (by omega)⟩⟩
end
section
set_option maxRecDepth 4000 in
theorem c_X3_serve {L : pm_L} {hb : Nat} (hk : hs_ok L hb) {w : pm_W} {S : ab_S} (hR : hs_R w hb S) (hI : ab_I S) {b : Int32} {p : Nat} {f : Int32} (he : ab_eok (b, p, f)) : pm_C L MX3_serve [.ref hb, .int b, .int (nI p), .int f] w (pm_qi fun r w1 => r = (ab_serve S b p f).2 ∧ hs_R w1 hb (ab_serve S b p f).1 ∧ fr_out w w1 hb (hb + 25)) := by
  obtain ⟨e1, e2, e3, e4, e5, e6, e7, hdr, hdl, hap⟩ := id hk
  obtain ⟨r1, r2, r3, r4, r5, r6, r7, r8, r9⟩ := id hdr
  obtain ⟨l1, l2, l3, l4, l5, l6, l7, l8, l9⟩ := id hdl
  obtain ⟨g1, g2, g3, g4, g5, g6⟩ := id hR
  obtain ⟨⟨sp, i1, i2, i3, i4⟩, i5, i6, i7, i8, i9, i10, i11, i12⟩ := id hI
  have he4 : p < 4 := he.1
  refine pm_start (lv := [some (.ref _), some (.int _), some (.int _), some (.int _), none]) (plainFor_of_name pf3) (Nat.le_of_ble_eq_true rfl) rfl ?_
  refine pm_aload_n dX3_serve_0 rfl ?_
  refine pm_dup dX3_serve_1 rfl ?_
  refine pm_getI (ci := 3) (j := 8) (n := 11) (by first | assumption | rfl) (by decide) (by decide) rfl fl_RX3_56 rfl dX3_serve_2 ?_
  rw [g4 8 (by decide) (by decide)]
  refine pm_iload_n dX3_serve_5 rfl ?_
  refine pm_aload_n dX3_serve_6 rfl ?_
  refine pm_getI (ci := 3) (j := 7) (n := 11) (by first | assumption | rfl) (by decide) (by decide) rfl fl_RX3_53 rfl dX3_serve_7 ?_
  rw [show (w.1 hb 7) = S.2.2.2.1 7 from g4 7 (by decide) (by decide)]
  refine pm_isub dX3_serve_10 ?_
  refine pm_cSi (as := [.int _]) ml_RX3_130 (by decide) (Nat.le_of_ble_eq_true rfl) dX3_serve_11 (c_J9_abs_0f7a4 L _ _) (fun x1 w1 hq => ?_)
  obtain ⟨rfl, hw9⟩ := hq
  have hw9 := hw9.symm
  subst hw9
  refine pm_iadd dX3_serve_14 ?_
  refine pm_putI (ci := 3) (j := 8) (n := 11) (by first | assumption | rfl) (by decide) (by decide) rfl fl_RX3_56 rfl rfl dX3_serve_15 ?_
  refine pm_aload_n dX3_serve_18 rfl ?_
  refine pm_iload_n dX3_serve_19 rfl ?_
  refine pm_putI (ci := 3) (j := 7) (n := 11) (by first | assumption | rfl) (by decide) (by decide) rfl fl_RX3_53 rfl rfl dX3_serve_20 ?_
  generalize hw2 : pm_s (pm_s w hb (upd (w.1 hb) 8 (S.2.2.2.1 8 + ab_abs (b - S.2.2.2.1 7)))) hb (upd ((pm_s w hb (upd (w.1 hb) 8 (S.2.2.2.1 8 + ab_abs (b - S.2.2.2.1 7)))).1 hb) 7 b) = w2
  have hR2 : hs_R w2 hb (S.1, S.2.1, S.2.2.1, ab_arm S.2.2.2.1 b, S.2.2.2.2) := by
    rw [← hw2]
    exact hs_num (hs_num hR (j := 8) (x := S.2.2.2.1 8 + ab_abs (b - S.2.2.2.1 7)) (by decide) (by decide)) (j := 7) (x := b) (by decide) (by decide)
  have hf2 : fr_out w w2 hb (hb + 25) := by
    rw [← hw2]
    exact fr_st (fr_s (by omega) (by omega)) (by omega) (by omega)
  have hI2 : ab_I (S.1, S.2.1, S.2.2.1, ab_arm S.2.2.2.1 b, S.2.2.2.2) := ⟨⟨sp, i1, i2, i3, i4⟩, i5, i6, i7, ⟨he.2.1, he.2.2.1⟩, i9, i10, i11, i12⟩
  refine pm_aload_n dX3_serve_23 rfl ?_
  refine pm_getR (ci := 3) (j := 0) (n := 11) (by first | assumption | rfl) (by decide) (by decide) rfl fl_RX3_14 rfl (by first | assumption | rfl) dX3_serve_24 ?_
  refine pm_getI (ci := 2) (j := 4) (n := 5) (by first | assumption | rfl) (by decide) (by decide) rfl fl_RX3_135 rfl dX3_serve_27 ?_
  rw [show w2.1 (hb + 1) 4 = nI S.1.length from hR2.1.1]
  refine pm_aload_n dX3_serve_30 rfl ?_
  refine pm_getI (ci := 3) (j := 4) (n := 11) (by first | assumption | rfl) (by decide) (by decide) rfl fl_RX3_43 rfl dX3_serve_31 ?_
  rw [show w2.1 hb 4 = S.2.2.2.1 4 from hR2.2.2.2.1 4 (by decide) (by decide)]
  refine pm_icmp_lt (tgt := 64) dX3_serve_34 (by decide) (fun c34 => ?_) (fun c34 => ?_)
  · refine pm_aload_n dX3_serve_64 rfl ?_
    refine pm_getR (ci := 3) (j := 0) (n := 11) (by first | assumption | rfl) (by decide) (by decide) rfl fl_RX3_14 rfl (by first | assumption | rfl) dX3_serve_65 ?_
    refine pm_iload_n dX3_serve_68 rfl ?_
    refine pm_iload_n dX3_serve_69 rfl ?_
    refine pm_iload_n dX3_serve_70 rfl ?_
    refine pm_cVv (as := [.int _, .int _, .int _]) (by first | assumption | rfl) (by decide) rfl ml_RX3_120 (by decide) (Nat.le_of_ble_eq_true rfl) dX3_serve_71 (c_X2_add hdr (by decide) hR2.1 (by show S.1.length ≤ 12; omega) (by show S.1.length < 12; rw [i1, nI_ltI (by omega) (by omega)] at c34; omega) b he4 f) (fun w1 hq => ?_)
    obtain ⟨p1, p2⟩ := hq
    refine pm_iconst (x := 1) dX3_serve_74 rfl ?_
    refine pm_iret dX3_serve_75 rfl ?_
    rw [ab_serve, if_pos c34]
    exact ⟨rfl, hs_room hR2 p1 p2, fr_tr hf2 (fr_wd p2 (by omega) (by omega))⟩
  · have hlt0 : ¬ S.1.length < sp := by
      rw [i1, nI_ltI (by omega) (by omega)] at c34
      exact c34
    refine pm_aload_n dX3_serve_37 rfl ?_
    refine pm_iload_n dX3_serve_38 rfl ?_
    refine pm_cVi (as := [.int _]) (by first | assumption | rfl) (by decide) rfl ml_RX3_138 (by decide) (Nat.le_of_ble_eq_true rfl) dX3_serve_39 (show pm_C L MX3_leaver [.ref hb, .int (nI p)] w2 (pm_qi fun r w1 => r = ab_enc (ab_lv S.1 S.2.2.1 p) S.1.length ∧ w1 = w2) from c_X3_leaver hk hR2 hI2 he4) (fun x1 w1 hq => ?_)
    obtain ⟨rfl, hw9⟩ := hq
    have hw9 := hw9.symm
    subst hw9
    refine pm_istore (lv' := [some (.ref _), some (.int _), some (.int _), some (.int _), some (.int _)]) dX3_serve_42 (by decide) rfl ?_
    refine pm_iload dX3_serve_44 rfl ?_
    refine pm_iconst (x := -1) dX3_serve_46 rfl ?_
    refine pm_icmp_ne (tgt := 58) dX3_serve_47 (by decide) (fun c47 => ?_) (fun c47 => ?_)
    · have hlv : ab_lv S.1 S.2.2.1 p < S.1.length := by
        rcases Nat.lt_or_ge (ab_lv S.1 S.2.2.1 p) S.1.length with h | h
        · exact h
        · exact absurd (by rw [ab_enc, if_neg (by omega)]) c47
      have hei : S.1[ab_lv S.1 S.2.2.1 p]? = some (S.1.getD (ab_lv S.1 S.2.2.1 p) (0, 0, 0)) := by
        rw [List.getD_eq_getElem?_getD, List.getElem?_eq_getElem hlv]; rfl
      rw [ab_enc, if_pos hlv]
      refine pm_aload_n dX3_serve_58 rfl ?_
      refine pm_iload dX3_serve_59 rfl ?_
      refine pm_cVv (as := [.int _]) (by first | assumption | rfl) (by decide) rfl ml_RX3_144 (by decide) (Nat.le_of_ble_eq_true rfl) dX3_serve_61 (c_X3_letGo hk hR2 hI2 hei) (fun w1 hq => ?_)
      obtain ⟨hR3, hf3⟩ := hq
      refine pm_aload_n dX3_serve_64 rfl ?_
      refine pm_getR (ci := 3) (j := 0) (n := 11) (by first | assumption | rfl) (by decide) (by decide) rfl fl_RX3_14 rfl (by first | assumption | rfl) dX3_serve_65 ?_
      refine pm_iload_n dX3_serve_68 rfl ?_
      refine pm_iload_n dX3_serve_69 rfl ?_
      refine pm_iload_n dX3_serve_70 rfl ?_
      refine pm_cVv (as := [.int _, .int _, .int _]) (by first | assumption | rfl) (by decide) rfl ml_RX3_120 (by decide) (Nat.le_of_ble_eq_true rfl) dX3_serve_71 (c_X2_add hdr (by decide) hR3.1 (by show (S.1.eraseIdx (ab_lv S.1 S.2.2.1 p)).length ≤ 12; rw [List.length_eraseIdx, if_pos hlv]; omega) (by show (S.1.eraseIdx (ab_lv S.1 S.2.2.1 p)).length < 12; rw [List.length_eraseIdx, if_pos hlv]; omega) b he4 f) (fun w1 hq => ?_)
      obtain ⟨p1, p2⟩ := hq
      refine pm_iconst (x := 1) dX3_serve_74 rfl ?_
      refine pm_iret dX3_serve_75 rfl ?_
      rw [ab_serve, if_neg c34, if_pos hlv]
      exact ⟨rfl, hs_room hR3 p1 p2, fr_tr hf2 (fr_tr hf3 (fr_wd p2 (by omega) (by omega)))⟩
    · have hlv : ¬ ab_lv S.1 S.2.2.1 p < S.1.length := by
        intro h
        rw [ab_enc, if_pos h] at c47
        exact nI_ne_m1 (by omega) c47
      refine pm_aload_n dX3_serve_50 rfl ?_
      refine pm_iload_n dX3_serve_51 rfl ?_
      refine pm_iload_n dX3_serve_52 rfl ?_
      refine pm_cVv (as := [.int _, .int _]) (by first | assumption | rfl) (by decide) rfl ml_RX3_141 (by decide) (Nat.le_of_ble_eq_true rfl) dX3_serve_53 (c_X3_turnAway hk hR2 hI2 he4 f) (fun w1 hq => ?_)
      obtain ⟨p1, p2⟩ := hq
      refine pm_iconst (x := 0) dX3_serve_56 rfl ?_
      refine pm_iret dX3_serve_57 rfl ?_
      rw [ab_serve, if_neg c34, if_neg hlv]
      exact ⟨rfl, p1, fr_tr hf2 p2⟩

theorem m5_serve (S : ab_S) (b : Int32) (p : Nat) (f : Int32) : (ab_serve S b p f).1.2.2.2.1 5 = S.2.2.2.1 5 := by
  unfold ab_serve
  split
  · rfl
  · split <;> rfl

set_option maxRecDepth 4000 in
theorem tick_loop {L : pm_L} {hb : Nat} (hk : hs_ok L hb) (w : pm_W) {n : Nat} (hn3 : n ≤ 3) : ∀ (m k : Nat) (w1 : pm_W) (S1 : ab_S) (cm dm pp : Int32), k + m = n → hs_R w1 hb S1 → ab_I S1 → S1.2.2.2.1 5 = nI n → fr_out w w1 hb (hb + 25) → pm_R L MX3_tick 33 [some (.ref hb), some (.int dm), some (.int pp), some (.int cm), some (.int (nI k)), none, none, none] [] w1 (pm_qi fun r w1 => r = cm + (ab_sv m S1).2 ∧ hs_R w1 hb (ab_sv m S1).1 ∧ fr_out w w1 hb (hb + 25)) := by
  obtain ⟨e1, e2, e3, e4, e5, e6, e7, hdr, hdl, hap⟩ := id hk
  obtain ⟨r1, r2, r3, r4, r5, r6, r7, r8, r9⟩ := id hdr
  obtain ⟨l1, l2, l3, l4, l5, l6, l7, l8, l9⟩ := id hdl
  intro m
  induction m with
  | zero =>
      intro k w1 S1 cm dm pp hkm hR1 hI1 hn5 hf1
      refine pm_iload dX3_tick_33 rfl ?_
      refine pm_aload_n dX3_tick_35 rfl ?_
      refine pm_getI (ci := 3) (j := 5) (n := 11) (by first | assumption | rfl) (by decide) (by decide) rfl fl_RX3_47 rfl dX3_tick_36 ?_
      rw [show w1.1 hb 5 = nI n from (hR1.2.2.2.1 5 (by decide) (by decide)).trans hn5]
      refine pm_icmp_ge (tgt := 131) dX3_tick_39 (by decide) (fun c39 => ?_) (fun c39 => absurd (by rw [nI_leI (by omega) (by omega)]; omega) c39)
      refine pm_iload_n dX3_tick_131 rfl ?_
      refine pm_iret dX3_tick_132 rfl ?_
      exact ⟨(Int32.add_zero _).symm, hR1, hf1⟩
  | succ m ih =>
      intro k w1 S1 cm dm pp hkm hR1 hI1 hn5 hf1
      obtain ⟨j1, j5, j6, j7, j8, j9, j10, j11, j12⟩ := id hI1
      refine pm_iload dX3_tick_33 rfl ?_
      refine pm_aload_n dX3_tick_35 rfl ?_
      refine pm_getI (ci := 3) (j := 5) (n := 11) (by first | assumption | rfl) (by decide) (by decide) rfl fl_RX3_47 rfl dX3_tick_36 ?_
      rw [show w1.1 hb 5 = nI n from (hR1.2.2.2.1 5 (by decide) (by decide)).trans hn5]
      refine pm_icmp_ge (tgt := 131) dX3_tick_39 (by decide) (fun c39 => absurd c39 (by rw [nI_leI (by omega) (by omega)]; omega)) (fun c39 => ?_)
      refine pm_aload_n dX3_tick_42 rfl ?_
      refine pm_getR (ci := 3) (j := 1) (n := 11) (by first | assumption | rfl) (by decide) (by decide) rfl fl_RX3_20 rfl (by first | assumption | rfl) dX3_tick_43 ?_
      refine pm_aload_n dX3_tick_46 rfl ?_
      refine pm_getI (ci := 3) (j := 7) (n := 11) (by first | assumption | rfl) (by decide) (by decide) rfl fl_RX3_53 rfl dX3_tick_47 ?_
      rw [show w1.1 hb 7 = S1.2.2.2.1 7 from hR1.2.2.2.1 7 (by decide) (by decide)]
      refine pm_cVi (as := [.int _]) (by first | assumption | rfl) (by decide) rfl ml_RX3_127 (by decide) (Nat.le_of_ble_eq_true rfl) dX3_tick_50 (c_X2_nearest hdl (by decide) hR1.2.1 j5 _ (fun e he => far_lt ⟨(j7 e he).2.1, (j7 e he).2.2.1⟩ j8)) (fun x1 w1 hq => ?_)
      obtain ⟨rfl, hw9⟩ := hq
      have hw9 := hw9.symm
      subst hw9
      refine pm_istore (lv' := [some (.ref _), some (.int _), some (.int _), some (.int _), some (.int _), some (.int _), none, none]) dX3_tick_53 (by decide) rfl ?_
      refine pm_iload dX3_tick_55 rfl ?_
      refine pm_iconst (x := -1) dX3_tick_57 rfl ?_
      refine pm_icmp_ne (tgt := 64) dX3_tick_58 (by decide) (fun c58 => ?_) (fun c58 => ?_)
      · have hnr2 : ∃ k, ab_nr S1.2.1 (S1.2.2.2.1 7) S1.2.1.length = some k := by
          cases hnr : ab_nr S1.2.1 (S1.2.2.2.1 7) S1.2.1.length with
          | none => exact absurd (by rw [hnr]; rfl) c58
          | some k => exact ⟨k, rfl⟩
        obtain ⟨k1, hnr⟩ := hnr2
        rw [hnr]
        have hk1 := ab_nr_lt hnr
        have hei : S1.2.1[k1]? = some (S1.2.1.getD k1 (0, 0, 0)) := by
          rw [List.getD_eq_getElem?_getD, List.getElem?_eq_getElem hk1]; rfl
        have hsv : ab_sv (m + 1) S1 = (let e := S1.2.1.getD k1 (0, 0, 0); let r := ab_serve (S1.1, S1.2.1.eraseIdx k1, va_up S1.2.2.1 e.2.1 (ab_inc (S1.2.2.1 e.2.1) 3), S1.2.2.2.1, S1.2.2.2.2) e.1 e.2.1 1; let r2 := ab_sv m r.1; (r2.1, r.2 + r2.2)) := by
          rw [ab_sv, hnr]
        have heo := j7 _ (List.mem_of_getElem? hei)
        generalize S1.2.1.getD k1 (0, 0, 0) = e at hei hsv heo
        dsimp only at hsv
        have heo4 : e.2.1 < 4 := heo.1
        obtain ⟨ha0, ⟨a1, a2, a3, a4, a5⟩⟩ := hap e.2.1 heo.1
        have hgi := hR1.2.1.2.1 k1 e hei
        show pm_R L MX3_tick 64 [some (.ref hb), some (.int dm), some (.int pp), some (.int cm), some (.int (nI k)), some (.int (nI k1)), none, none] [] w1 _
        refine pm_aload_n dX3_tick_64 rfl ?_
        refine pm_getR (ci := 3) (j := 1) (n := 11) (by first | assumption | rfl) (by decide) (by decide) rfl fl_RX3_20 rfl (by first | assumption | rfl) dX3_tick_65 ?_
        refine pm_getR (ci := 2) (j := 0) (n := 5) (by first | assumption | rfl) (by decide) (by decide) rfl fl_RX3_105 rfl (by first | assumption | rfl) dX3_tick_68 ?_
        refine pm_iload dX3_tick_71 rfl ?_
        refine pm_ialdN (by first | assumption | rfl) (by first | assumption | omega | decide) (by first | decide | omega) dX3_tick_73 ?_
        rw [hgi.1]
        refine pm_istore (lv' := [some (.ref _), some (.int _), some (.int _), some (.int _), some (.int _), some (.int _), some (.int _), none]) dX3_tick_74 (by decide) rfl ?_
        refine pm_aload_n dX3_tick_76 rfl ?_
        refine pm_getR (ci := 3) (j := 1) (n := 11) (by first | assumption | rfl) (by decide) (by decide) rfl fl_RX3_20 rfl (by first | assumption | rfl) dX3_tick_77 ?_
        refine pm_getR (ci := 2) (j := 1) (n := 5) (by first | assumption | rfl) (by decide) (by decide) rfl fl_RX3_108 rfl (by first | assumption | rfl) dX3_tick_80 ?_
        refine pm_iload dX3_tick_83 rfl ?_
        refine pm_ialdN (by first | assumption | rfl) (by first | assumption | omega | decide) (by first | decide | omega) dX3_tick_85 ?_
        rw [hgi.2.1]
        refine pm_istore (lv' := [some (.ref _), some (.int _), some (.int _), some (.int _), some (.int _), some (.int _), some (.int _), some (.int _)]) dX3_tick_86 (by decide) rfl ?_
        refine pm_aload_n dX3_tick_88 rfl ?_
        refine pm_getR (ci := 3) (j := 1) (n := 11) (by first | assumption | rfl) (by decide) (by decide) rfl fl_RX3_20 rfl (by first | assumption | rfl) dX3_tick_89 ?_
        refine pm_iload dX3_tick_92 rfl ?_
        refine pm_cVv (as := [.int _]) (by first | assumption | rfl) (by decide) rfl ml_RX3_117 (by decide) (Nat.le_of_ble_eq_true rfl) dX3_tick_94 (c_X2_remove hdl (by decide) hR1.2.1 j5 hei heo4) (fun w2 hq => ?_)
        obtain ⟨p1, hf2⟩ := hq
        have hR2 := hs_line hR1 p1 hf2
        refine pm_aload_n dX3_tick_97 rfl ?_
        refine pm_getR (ci := 3) (j := 2) (n := 11) (by first | assumption | rfl) (by decide) (by decide) rfl fl_RX3_25 rfl (by first | assumption | rfl) dX3_tick_98 ?_
        refine pm_iload dX3_tick_101 rfl ?_
        refine pm_kaldN (by first | assumption | rfl) (by first | assumption | omega | decide) (by first | decide | omega) (by first | assumption | rfl) dX3_tick_103 ?_
        refine pm_getR (ci := 0) (j := 0) (n := 10) (by first | assumption | rfl) (by decide) (by decide) rfl fl_RX3_82 rfl (by first | assumption | rfl) dX3_tick_104 ?_
        refine pm_iconst (x := nI 3) dX3_tick_107 rfl ?_
        refine pm_dup2 dX3_tick_108 rfl rfl ?_
        refine pm_ialdN (by first | assumption | rfl) (by first | assumption | omega | decide) (by first | decide | omega) dX3_tick_109 ?_
        refine pm_iconst (x := 1) dX3_tick_110 rfl ?_
        refine pm_iadd dX3_tick_111 ?_
        refine pm_iastN (by first | assumption | rfl) (by first | assumption | omega | decide) (by first | decide | omega) dX3_tick_112 ?_
        have hR3 : hs_R (pm_s w2 (hb + 13 + 3 * e.2.1 + 1) (upd (w2.1 (hb + 13 + 3 * e.2.1 + 1)) 3 (w2.1 (hb + 13 + 3 * e.2.1 + 1) 3 + 1))) hb (S1.1, S1.2.1.eraseIdx k1, va_up S1.2.2.1 e.2.1 (ab_inc (S1.2.2.1 e.2.1) 3), S1.2.2.2.1, S1.2.2.2.2) := hs_ask hR2 heo4 (as_inc (hR2.2.2.1 e.2.1 heo4) 3) (fr_s (by omega) (by omega))
        have hI3 : ab_I (S1.1, S1.2.1.eraseIdx k1, va_up S1.2.2.1 e.2.1 (ab_inc (S1.2.2.1 e.2.1) 3), S1.2.2.2.1, S1.2.2.2.2) := by
          refine ⟨j1, ?_, j6, eok_rem j7 _, j8, aok_up j9 (aok_inc (j9 _ heo4) 3), j10, j11, j12⟩
          show (S1.2.1.eraseIdx k1).length ≤ 16
          rw [List.length_eraseIdx, if_pos hk1]
          omega
        have hes : ab_eok (e.1, e.2.1, 1) := ⟨heo.1, heo.2.1, heo.2.2.1, Or.inr rfl⟩
        have hf3 : fr_out w (pm_s w2 (hb + 13 + 3 * e.2.1 + 1) (upd (w2.1 (hb + 13 + 3 * e.2.1 + 1)) 3 (w2.1 (hb + 13 + 3 * e.2.1 + 1) 3 + 1))) hb (hb + 25) := fr_st (fr_tr hf1 (fr_wd hf2 (by omega) (by omega))) (by omega) (by omega)
        generalize pm_s w2 (hb + 13 + 3 * e.2.1 + 1) (upd (w2.1 (hb + 13 + 3 * e.2.1 + 1)) 3 (w2.1 (hb + 13 + 3 * e.2.1 + 1) 3 + 1)) = w3 at hR3 hf3 ⊢
        refine pm_iload_n dX3_tick_113 rfl ?_
        refine pm_aload_n dX3_tick_114 rfl ?_
        refine pm_iload dX3_tick_115 rfl ?_
        refine pm_iload dX3_tick_117 rfl ?_
        refine pm_iconst (x := 1) dX3_tick_119 rfl ?_
        refine pm_cVi (as := [.int _, .int _, .int _]) (by first | assumption | rfl) (by decide) rfl ml_RX3_123 (by decide) (Nat.le_of_ble_eq_true rfl) dX3_tick_120 (c_X3_serve hk hR3 hI3 hes) (fun x4 w4 hq => ?_)
        obtain ⟨rfl, hR4, hf4⟩ := hq
        refine pm_iadd dX3_tick_123 ?_
        refine pm_istore_n (lv' := [some (.ref _), some (.int _), some (.int _), some (.int _), some (.int _), some (.int _), some (.int _), some (.int _)]) dX3_tick_124 (by decide) rfl ?_
        refine pm_iinc (y := _ + 1) (lv' := [some (.ref _), some (.int _), some (.int _), some (.int _), some (.int _), some (.int _), some (.int _), some (.int _)]) dX3_tick_125 rfl rfl (by decide) rfl ?_
        refine pm_goto (tgt := 33) dX3_tick_128 (by decide) ?_
        refine pm_fg (lv' := [some (.ref _), some (.int _), some (.int _), some (.int _), some (.int _), none, none, none]) (pm_le_k rfl (pm_le_k rfl (pm_le_k rfl (pm_le_k rfl (pm_le_k rfl (pm_le_n (pm_le_n (pm_le_n pm_le_0)))))))) ?_
        rw [nI_1]
        have h9 := ih (k + 1) _ _ (cm + (ab_serve (S1.1, S1.2.1.eraseIdx k1, va_up S1.2.2.1 e.2.1 (ab_inc (S1.2.2.1 e.2.1) 3), S1.2.2.2.1, S1.2.2.2.2) e.1 e.2.1 1).2) dm pp (by omega) hR4 (I_serve hI3 hes) ((m5_serve _ _ _ _).trans hn5) (fr_tr hf3 hf4)
        rw [hsv]
        dsimp only
        simp only [Int32.add_assoc] at h9
        exact h9
      · refine pm_goto (tgt := 131) dX3_tick_61 (by decide) ?_
        refine pm_iload_n dX3_tick_131 rfl ?_
        refine pm_iret dX3_tick_132 rfl ?_
        have hnr : ab_nr S1.2.1 (S1.2.2.2.1 7) S1.2.1.length = none := by
          cases hnr : ab_nr S1.2.1 (S1.2.2.2.1 7) S1.2.1.length with
          | none => rfl
          | some k => rw [hnr] at c58; exact absurd c58 (nI_ne_m1 (by have := ab_nr_lt hnr; omega))
        rw [show ab_sv (m + 1) S1 = (S1, 0) by rw [ab_sv, hnr]]
        exact ⟨(Int32.add_zero _).symm, hR1, hf1⟩

set_option maxRecDepth 4000 in
theorem c_X3_tick0 {L : pm_L} {hb : Nat} (hk : hs_ok L hb) {w : pm_W} {S : ab_S} (hR : hs_R w hb S) (hI : ab_I S) {n : Nat} (hn : S.2.2.2.1 5 = nI n) (hn3 : n ≤ 3) : pm_C L MX3_tick [.ref hb, .int (-1), .int (-1)] w (pm_qi fun r w1 => r = (ab_tick S n none).2 ∧ hs_R w1 hb (ab_tick S n none).1 ∧ fr_out w w1 hb (hb + 25)) := by
  obtain ⟨e1, e2, e3, e4, e5, e6, e7, hdr, hdl, hap⟩ := id hk
  obtain ⟨r1, r2, r3, r4, r5, r6, r7, r8, r9⟩ := id hdr
  obtain ⟨l1, l2, l3, l4, l5, l6, l7, l8, l9⟩ := id hdl
  obtain ⟨g1, g2, g3, g4, g5, g6⟩ := id hR
  obtain ⟨⟨sp, i1, i2, i3, i4⟩, i5, i6, i7, i8, i9, i10, i11, i12⟩ := id hI
  refine pm_start (lv := [some (.ref _), some (.int _), some (.int _), none, none, none, none, none]) (plainFor_of_name pf3) (Nat.le_of_ble_eq_true rfl) rfl ?_
  refine pm_aload_n dX3_tick_0 rfl ?_
  refine pm_dup dX3_tick_1 rfl ?_
  refine pm_getI (ci := 3) (j := 9) (n := 11) (by first | assumption | rfl) (by decide) (by decide) rfl fl_RX3_59 rfl dX3_tick_2 ?_
  rw [g4 9 (by decide) (by decide)]
  refine pm_iconst (x := 1) dX3_tick_5 rfl ?_
  refine pm_iadd dX3_tick_6 ?_
  refine pm_putI (ci := 3) (j := 9) (n := 11) (by first | assumption | rfl) (by decide) (by decide) rfl fl_RX3_59 rfl rfl dX3_tick_7 ?_
  have hRt : hs_R (pm_s w hb (upd (w.1 hb) 9 (S.2.2.2.1 9 + 1))) hb (ab_tk S) := hs_num hR (by decide) (by decide)
  have hft : fr_out w (pm_s w hb (upd (w.1 hb) 9 (S.2.2.2.1 9 + 1))) hb (hb + 25) := fr_s (by omega) (by omega)
  generalize pm_s w hb (upd (w.1 hb) 9 (S.2.2.2.1 9 + 1)) = wt at hRt hft ⊢
  refine pm_iconst (x := 0) dX3_tick_10 rfl ?_
  refine pm_istore_n (lv' := [some (.ref _), some (.int _), some (.int _), some (.int _), none, none, none, none]) dX3_tick_11 (by decide) rfl ?_
  refine pm_iconst (x := 0) dX3_tick_12 rfl ?_
  refine pm_istore (lv' := [some (.ref _), some (.int _), some (.int _), some (.int _), some (.int _), none, none, none]) dX3_tick_13 (by decide) rfl ?_
  refine pm_iload_n dX3_tick_15 rfl ?_
  refine pm_iconst (x := -1) dX3_tick_16 rfl ?_
  refine pm_icmp_eq (tgt := 33) dX3_tick_17 (by decide) (fun c17 => ?_) (fun c17 => absurd rfl c17)
  have h9 := tick_loop hk w hn3 n 0 wt (ab_tk S) 0 (-1) (-1) (by omega) hRt (I_tk hI) hn hft
  simp only [Int32.zero_add] at h9
  exact h9

set_option maxRecDepth 4000 in
theorem c_X3_tickD {L : pm_L} {hb : Nat} (hk : hs_ok L hb) {w : pm_W} {S : ab_S} (hR : hs_R w hb S) (hI : ab_I S) {n : Nat} (hn : S.2.2.2.1 5 = nI n) (hn1 : 1 ≤ n) (hn3 : n ≤ 3) {b : Int32} {p : Nat} (he : ab_eok (b, p, 0)) : pm_C L MX3_tick [.ref hb, .int b, .int (nI p)] w (pm_qi fun r w1 => r = (ab_tick S n (some (b, p))).2 ∧ hs_R w1 hb (ab_tick S n (some (b, p))).1 ∧ fr_out w w1 hb (hb + 25)) := by
  obtain ⟨e1, e2, e3, e4, e5, e6, e7, hdr, hdl, hap⟩ := id hk
  obtain ⟨r1, r2, r3, r4, r5, r6, r7, r8, r9⟩ := id hdr
  obtain ⟨l1, l2, l3, l4, l5, l6, l7, l8, l9⟩ := id hdl
  obtain ⟨g1, g2, g3, g4, g5, g6⟩ := id hR
  obtain ⟨⟨sp, i1, i2, i3, i4⟩, i5, i6, i7, i8, i9, i10, i11, i12⟩ := id hI
  have hbn : ¬ b = -1 := fun h => by have := he.2.1; rw [h] at this; exact absurd this (by show ¬ (0 : Int32) ≤ -1; decide)
  refine pm_start (lv := [some (.ref _), some (.int _), some (.int _), none, none, none, none, none]) (plainFor_of_name pf3) (Nat.le_of_ble_eq_true rfl) rfl ?_
  refine pm_aload_n dX3_tick_0 rfl ?_
  refine pm_dup dX3_tick_1 rfl ?_
  refine pm_getI (ci := 3) (j := 9) (n := 11) (by first | assumption | rfl) (by decide) (by decide) rfl fl_RX3_59 rfl dX3_tick_2 ?_
  rw [g4 9 (by decide) (by decide)]
  refine pm_iconst (x := 1) dX3_tick_5 rfl ?_
  refine pm_iadd dX3_tick_6 ?_
  refine pm_putI (ci := 3) (j := 9) (n := 11) (by first | assumption | rfl) (by decide) (by decide) rfl fl_RX3_59 rfl rfl dX3_tick_7 ?_
  have hRt : hs_R (pm_s w hb (upd (w.1 hb) 9 (S.2.2.2.1 9 + 1))) hb (ab_tk S) := hs_num hR (by decide) (by decide)
  have hft : fr_out w (pm_s w hb (upd (w.1 hb) 9 (S.2.2.2.1 9 + 1))) hb (hb + 25) := fr_s (by omega) (by omega)
  generalize pm_s w hb (upd (w.1 hb) 9 (S.2.2.2.1 9 + 1)) = wt at hRt hft ⊢
  refine pm_iconst (x := 0) dX3_tick_10 rfl ?_
  refine pm_istore_n (lv' := [some (.ref _), some (.int _), some (.int _), some (.int _), none, none, none, none]) dX3_tick_11 (by decide) rfl ?_
  refine pm_iconst (x := 0) dX3_tick_12 rfl ?_
  refine pm_istore (lv' := [some (.ref _), some (.int _), some (.int _), some (.int _), some (.int _), none, none, none]) dX3_tick_13 (by decide) rfl ?_
  refine pm_iload_n dX3_tick_15 rfl ?_
  refine pm_iconst (x := -1) dX3_tick_16 rfl ?_
  refine pm_icmp_eq (tgt := 33) dX3_tick_17 (by decide) (fun c17 => absurd c17 hbn) (fun c17 => ?_)
  refine pm_iload_n dX3_tick_20 rfl ?_
  refine pm_aload_n dX3_tick_21 rfl ?_
  refine pm_iload_n dX3_tick_22 rfl ?_
  refine pm_iload_n dX3_tick_23 rfl ?_
  refine pm_iconst (x := 0) dX3_tick_24 rfl ?_
  refine pm_cVi (as := [.int _, .int _, .int _]) (by first | assumption | rfl) (by decide) rfl ml_RX3_123 (by decide) (Nat.le_of_ble_eq_true rfl) dX3_tick_25 (c_X3_serve hk hRt (I_tk hI) he) (fun x4 w4 hq => ?_)
  obtain ⟨rfl, hR4, hf4⟩ := hq
  refine pm_iadd dX3_tick_28 ?_
  refine pm_istore_n (lv' := [some (.ref _), some (.int _), some (.int _), some (.int _), some (.int _), none, none, none]) dX3_tick_29 (by decide) rfl ?_
  refine pm_iinc (y := _ + 1) (lv' := [some (.ref _), some (.int _), some (.int _), some (.int _), some (.int _), none, none, none]) dX3_tick_30 rfl rfl (by decide) rfl ?_
  have h9 := tick_loop hk w hn3 (n - 1) 1 w4 (ab_serve (ab_tk S) b p 0).1 (0 + (ab_serve (ab_tk S) b p 0).2) b (nI p) (by omega) hR4 (I_serve (I_tk hI) he) ((m5_serve _ _ _ _).trans hn) (fr_tr hft hf4)
  rw [Int32.zero_add] at h9
  rw [Int32.zero_add]
  exact h9
end
section
theorem enc_m1 {i n : Nat} (hi : i ≤ n) (hn : n < 2 ^ 31) : ab_enc i n = -1 ↔ i = n := by
  unfold ab_enc
  by_cases h : i < n
  · rw [if_pos h]
    exact ⟨fun e => absurd e (nI_ne_m1 (by omega)), fun e => by omega⟩
  · rw [if_neg h]
    exact ⟨fun _ => by omega, fun _ => rfl⟩
theorem fi_le (l : List ab_E) (x : Int32) : ab_fi l x ≤ l.length := List.findIdx_le_length
theorem at_getD {l : List ab_E} {i : Nat} (h : i < l.length) : l[i]? = some (l.getD i (0, 0, 0)) := by
  rw [List.getD_eq_getElem?_getD, List.getElem?_eq_getElem h]; rfl
def ab_dem (S : ab_S) (p : Nat) (b : Int32) : ab_S := (S.1, if ab_fi S.2.1 b < S.2.1.length then S.2.1.eraseIdx (ab_fi S.2.1 b) else S.2.1, va_up S.2.2.1 p (ab_inc (S.2.2.1 p) 2), S.2.2.2)
def ab_hit (S : ab_S) (p i : Nat) : ab_S := (S.1.eraseIdx i ++ [((S.1.getD i (0, 0, 0)).1, (S.1.getD i (0, 0, 0)).2.1, 0)], S.2.1, if (S.1.getD i (0, 0, 0)).2.2 = 1 then va_up (va_up S.2.2.1 p (ab_inc (S.2.2.1 p) 1)) (S.1.getD i (0, 0, 0)).2.1 (ab_save (va_up S.2.2.1 p (ab_inc (S.2.2.1 p) 1) (S.1.getD i (0, 0, 0)).2.1)) else va_up S.2.2.1 p (ab_inc (S.2.2.1 p) 1), S.2.2.2)
def ab_w1 (S : ab_S) (p : Nat) (b : Int32) : ab_S := if pm_bw b 0 63 = true ∧ S.2.1.length < 16 ∧ ab_fi S.1 b = S.1.length ∧ ab_fi S.2.1 b = S.2.1.length then (S.1, S.2.1 ++ [(b, p, 1)], S.2.2) else S
def ab_ws (S : ab_S) (p : Nat) (g : Nat → Int32) : Nat → ab_S
  | 0 => S
  | n + 1 => ab_w1 (ab_ws S p g n) p (g (n + 1))
def ab_wf : Nat → ab_S → Nat → Int32 → ab_S
  | 0, S, _, _ => S
  | n + 1, S, p, a => if a = -1 then S else ab_wf n (ab_w1 S p a) p ((S.2.2.1 p).2.2 a.toNatClampNeg)
def ab_wish (S : ab_S) (p : Nat) (b : Int32) (sd : Bool) : ab_S :=
  if (S.2.2.1 p).1 2 = 1 ∨ (S.2.2.1 p).1 2 = 5 then ab_ws S p (fun i => b + nI i * 1) ((S.2.2.1 p).1 3).toNatClampNeg
  else if (S.2.2.1 p).1 2 = 2 then (if sd = true then ab_ws S p (fun i => b + nI i * (S.2.2.1 p).1 8) ((S.2.2.1 p).1 3).toNatClampNeg else S)
  else if (S.2.2.1 p).1 2 = 3 then ab_wf ((S.2.2.1 p).1 3).toNatClampNeg S p ((S.2.2.1 p).2.2 b.toNatClampNeg)
  else if (S.2.2.1 p).1 2 = 4 then (if ab_sp (S.2.2.1 p) b = true then ab_ws S p (fun i => b + nI i * 1) (ab_min ((S.2.2.1 p).1 3) ((S.2.2.1 p).1 6 - b)).toNatClampNeg else S)
  else S
theorem I_dem {S : ab_S} (h : ab_I S) {p : Nat} (hp : p < 4) (b : Int32) : ab_I (ab_dem S p b) := by
  obtain ⟨h1, h2, h3, h4, h5, h6, h7, h8, h9⟩ := h
  refine ⟨h1, ?_, h3, ?_, h5, aok_up h6 (aok_inc (h6 _ hp) 2), h7, h8, h9⟩
  · show (if _ then _ else _ : List ab_E).length ≤ 16
    split
    next hc => rw [List.length_eraseIdx, if_pos hc]; omega
    next => exact h2
  · intro e he
    have he : e ∈ (if ab_fi S.2.1 b < S.2.1.length then S.2.1.eraseIdx (ab_fi S.2.1 b) else S.2.1) := he
    split at he
    · exact eok_rem h4 _ e he
    · exact h4 e he
theorem I_hit {S : ab_S} (h : ab_I S) {p i : Nat} (hp : p < 4) (hi : i < S.1.length) : ab_I (ab_hit S p i) := by
  obtain ⟨⟨n, n0, n1, n2, n3⟩, h2, h3, h4, h5, h6, h7, h8, h9⟩ := h
  have he := eok_at h3 hi
  have hu := aok_up (p := p) h6 (aok_inc (h6 _ hp) 1)
  refine ⟨⟨n, n0, n1, n2, ?_⟩, h2, eok_add (eok_rem h3 _) ⟨he.1, he.2.1, he.2.2.1, Or.inl rfl⟩, h4, h5, ?_, h7, h8, h9⟩
  · show (S.1.eraseIdx i ++ [_]).length ≤ n
    rw [List.length_append, List.length_eraseIdx, if_pos hi, List.length_singleton]
    omega
  · intro q hq
    by_cases hc : (S.1.getD i (0, 0, 0)).2.2 = 1
    · show ab_aok ((ab_hit S p i).2.2.1 q)
      simp only [ab_hit, if_pos hc]
      exact aok_up hu (aok_save (hu _ he.1)) q hq
    · show ab_aok ((ab_hit S p i).2.2.1 q)
      simp only [ab_hit, if_neg hc]
      exact hu q hq
theorem I_w1 {S : ab_S} (h : ab_I S) {p : Nat} (hp : p < 4) (b : Int32) : ab_I (ab_w1 S p b) := by
  unfold ab_w1
  split
  next hc =>
    obtain ⟨h1, h2, h3, h4, h5, h6, h7, h8, h9⟩ := h
    have hb := pm_bw_t.mp hc.1
    refine ⟨h1, ?_, h3, eok_add h4 ⟨hp, hb.1, hb.2, Or.inr rfl⟩, h5, h6, h7, h8, h9⟩
    show (S.2.1 ++ [_]).length ≤ 16
    rw [List.length_append, List.length_singleton]
    omega
  next => exact h
theorem w1_ask (S : ab_S) (p : Nat) (b : Int32) : (ab_w1 S p b).2.2 = S.2.2 := by
  unfold ab_w1
  split <;> rfl
theorem I_ws {S : ab_S} (h : ab_I S) {p : Nat} (hp : p < 4) (g : Nat → Int32) : ∀ n, ab_I (ab_ws S p g n)
  | 0 => h
  | n + 1 => I_w1 (I_ws h hp g n) hp _
theorem I_wf : ∀ (n : Nat) {S : ab_S}, ab_I S → ∀ {p : Nat}, p < 4 → ∀ a, ab_I (ab_wf n S p a)
  | 0, S, h, p, hp, a => h
  | n + 1, S, h, p, hp, a => by
    unfold ab_wf
    split
    · exact h
    · exact I_wf n (I_w1 h hp a) hp _
theorem I_wish {S : ab_S} (h : ab_I S) {p : Nat} (hp : p < 4) (b : Int32) (sd : Bool) : ab_I (ab_wish S p b sd) := by
  unfold ab_wish
  split
  · exact I_ws h hp _ _
  · split
    · split
      · exact I_ws h hp _ _
      · exact h
    · split
      · exact I_wf _ h hp _
      · split
        · split
          · exact I_ws h hp _ _
          · exact h
        · exact h

set_option maxRecDepth 4000 in
theorem c_X3_demand {L : pm_L} {hb : Nat} (hk : hs_ok L hb) {w : pm_W} {S : ab_S} (hR : hs_R w hb S) (hI : ab_I S) {p : Nat} (hp : p < 4) (b : Int32) : pm_C L MX3_demand [.ref hb, .int (nI p), .int b] w (pm_qv fun w1 => hs_R w1 hb (ab_dem S p b) ∧ fr_out w w1 hb (hb + 25)) := by
  obtain ⟨e1, e2, e3, e4, e5, e6, e7, hdr, hdl, hap⟩ := id hk
  obtain ⟨r1, r2, r3, r4, r5, r6, r7, r8, r9⟩ := id hdr
  obtain ⟨l1, l2, l3, l4, l5, l6, l7, l8, l9⟩ := id hdl
  obtain ⟨g1, g2, g3, g4, g5, g6⟩ := id hR
  obtain ⟨⟨sp, i1, i2, i3, i4⟩, i5, i6, i7, i8, i9, i10, i11, i12⟩ := id hI
  obtain ⟨ha0, ⟨a1, a2, a3, a4, a5⟩⟩ := hap p hp
  refine pm_start (lv := [some (.ref _), some (.int _), some (.int _), none]) (plainFor_of_name pf3) (Nat.le_of_ble_eq_true rfl) rfl ?_
  refine pm_aload_n dX3_demand_0 rfl ?_
  refine pm_getR (ci := 3) (j := 1) (n := 11) (by first | assumption | rfl) (by decide) (by decide) rfl fl_RX3_20 rfl (by first | assumption | rfl) dX3_demand_1 ?_
  refine pm_iload_n dX3_demand_4 rfl ?_
  refine pm_cVi (as := [.int _]) (by first | assumption | rfl) (by decide) rfl ml_RX3_85 (by decide) (Nat.le_of_ble_eq_true rfl) dX3_demand_5 (c_X2_find hdl (by decide) g2 i5 b) (fun x1 w1 hq => ?_)
  obtain ⟨rfl, hw9⟩ := hq
  have hw9 := hw9.symm
  subst hw9
  refine pm_istore_n (lv' := [some (.ref _), some (.int _), some (.int _), some (.int _)]) dX3_demand_8 (by decide) rfl ?_
  refine pm_iload_n dX3_demand_9 rfl ?_
  refine pm_iconst (x := -1) dX3_demand_10 rfl ?_
  refine pm_icmp_eq (tgt := 22) dX3_demand_11 (by decide) (fun c11 => ?_) (fun c11 => ?_)
  · refine pm_aload_n dX3_demand_22 rfl ?_
    refine pm_getR (ci := 3) (j := 2) (n := 11) (by first | assumption | rfl) (by decide) (by decide) rfl fl_RX3_25 rfl (by first | assumption | rfl) dX3_demand_23 ?_
    refine pm_iload_n dX3_demand_26 rfl ?_
    refine pm_kaldN (by first | assumption | rfl) (by first | assumption | omega | decide) (by first | decide | omega) (by first | assumption | rfl) dX3_demand_27 ?_
    refine pm_getR (ci := 0) (j := 0) (n := 10) (by first | assumption | rfl) (by decide) (by decide) rfl fl_RX3_82 rfl (by first | assumption | rfl) dX3_demand_28 ?_
    refine pm_iconst (x := nI 2) dX3_demand_31 rfl ?_
    refine pm_dup2 dX3_demand_32 rfl rfl ?_
    refine pm_ialdN (by first | assumption | rfl) (by first | assumption | omega | decide) (by first | decide | omega) dX3_demand_33 ?_
    refine pm_iconst (x := 1) dX3_demand_34 rfl ?_
    refine pm_iadd dX3_demand_35 ?_
    refine pm_iastN (by first | assumption | rfl) (by first | assumption | omega | decide) (by first | decide | omega) dX3_demand_36 ?_
    refine pm_vret dX3_demand_37 rfl ?_
    rw [enc_m1 (fi_le _ _) (by omega)] at c11
    refine ⟨?_, fr_s (by omega) (by omega)⟩
    rw [ab_dem, if_neg (by omega)]
    exact hs_ask hR hp (as_inc (g3 p hp) 2) (fr_s (by omega) (by omega))
  · have hfi : ab_fi S.2.1 b < S.2.1.length := by
      have q1 := fi_le S.2.1 b
      rw [enc_m1 q1 (by omega)] at c11
      omega
    rw [ab_enc, if_pos hfi]
    refine pm_aload_n dX3_demand_14 rfl ?_
    refine pm_getR (ci := 3) (j := 1) (n := 11) (by first | assumption | rfl) (by decide) (by decide) rfl fl_RX3_20 rfl (by first | assumption | rfl) dX3_demand_15 ?_
    refine pm_iload_n dX3_demand_18 rfl ?_
    refine pm_cVv (as := [.int _]) (by first | assumption | rfl) (by decide) rfl ml_RX3_117 (by decide) (Nat.le_of_ble_eq_true rfl) dX3_demand_19 (c_X2_remove hdl (by decide) g2 i5 (at_getD hfi) (eok_at i7 hfi).1) (fun w1 hq => ?_)
    obtain ⟨p1, hf1⟩ := hq
    have hR1 := hs_line hR p1 hf1
    refine pm_aload_n dX3_demand_22 rfl ?_
    refine pm_getR (ci := 3) (j := 2) (n := 11) (by first | assumption | rfl) (by decide) (by decide) rfl fl_RX3_25 rfl (by first | assumption | rfl) dX3_demand_23 ?_
    refine pm_iload_n dX3_demand_26 rfl ?_
    refine pm_kaldN (by first | assumption | rfl) (by first | assumption | omega | decide) (by first | decide | omega) (by first | assumption | rfl) dX3_demand_27 ?_
    refine pm_getR (ci := 0) (j := 0) (n := 10) (by first | assumption | rfl) (by decide) (by decide) rfl fl_RX3_82 rfl (by first | assumption | rfl) dX3_demand_28 ?_
    refine pm_iconst (x := nI 2) dX3_demand_31 rfl ?_
    refine pm_dup2 dX3_demand_32 rfl rfl ?_
    refine pm_ialdN (by first | assumption | rfl) (by first | assumption | omega | decide) (by first | decide | omega) dX3_demand_33 ?_
    refine pm_iconst (x := 1) dX3_demand_34 rfl ?_
    refine pm_iadd dX3_demand_35 ?_
    refine pm_iastN (by first | assumption | rfl) (by first | assumption | omega | decide) (by first | decide | omega) dX3_demand_36 ?_
    refine pm_vret dX3_demand_37 rfl ?_
    refine ⟨?_, fr_st (fr_wd hf1 (by omega) (by omega)) (by omega) (by omega)⟩
    rw [ab_dem, if_pos hfi]
    exact hs_ask hR1 hp (as_inc (hR1.2.2.1 p hp) 2) (fr_s (by omega) (by omega))

set_option maxRecDepth 4000 in
theorem c_X3_hit {L : pm_L} {hb : Nat} (hk : hs_ok L hb) {w : pm_W} {S : ab_S} (hR : hs_R w hb S) (hI : ab_I S) {p i : Nat} (hp : p < 4) (hi : i < S.1.length) : pm_C L MX3_hit [.ref hb, .int (nI p), .int (nI i)] w (pm_qv fun w1 => hs_R w1 hb (ab_hit S p i) ∧ fr_out w w1 hb (hb + 25)) := by
  obtain ⟨e1, e2, e3, e4, e5, e6, e7, hdr, hdl, hap⟩ := id hk
  obtain ⟨r1, r2, r3, r4, r5, r6, r7, r8, r9⟩ := id hdr
  obtain ⟨l1, l2, l3, l4, l5, l6, l7, l8, l9⟩ := id hdl
  obtain ⟨g1, g2, g3, g4, g5, g6⟩ := id hR
  obtain ⟨⟨sp, i1, i2, i3, i4⟩, i5, i6, i7, i8, i9, i10, i11, i12⟩ := id hI
  obtain ⟨ha0, ⟨a1, a2, a3, a4, a5⟩⟩ := hap p hp
  have hei := at_getD hi
  unfold ab_hit
  have heo := i6 _ (List.mem_of_getElem? hei)
  generalize S.1.getD i (0, 0, 0) = e at hei heo ⊢
  have heo4 : e.2.1 < 4 := heo.1
  obtain ⟨ha1, ⟨b1, b2, b3, b4, b5⟩⟩ := hap e.2.1 heo.1
  have hgi := g1.2.1 i e hei
  refine pm_start (lv := [some (.ref _), some (.int _), some (.int _), none, none]) (plainFor_of_name pf3) (Nat.le_of_ble_eq_true rfl) rfl ?_
  refine pm_aload_n dX3_hit_0 rfl ?_
  refine pm_getR (ci := 3) (j := 0) (n := 11) (by first | assumption | rfl) (by decide) (by decide) rfl fl_RX3_14 rfl (by first | assumption | rfl) dX3_hit_1 ?_
  refine pm_getR (ci := 2) (j := 0) (n := 5) (by first | assumption | rfl) (by decide) (by decide) rfl fl_RX3_105 rfl (by first | assumption | rfl) dX3_hit_4 ?_
  refine pm_iload_n dX3_hit_7 rfl ?_
  refine pm_ialdN (by first | assumption | rfl) (by first | assumption | omega | decide) (by first | decide | omega) dX3_hit_8 ?_
  rw [hgi.1]
  refine pm_istore_n (lv' := [some (.ref _), some (.int _), some (.int _), some (.int _), none]) dX3_hit_9 (by decide) rfl ?_
  refine pm_aload_n dX3_hit_10 rfl ?_
  refine pm_getR (ci := 3) (j := 0) (n := 11) (by first | assumption | rfl) (by decide) (by decide) rfl fl_RX3_14 rfl (by first | assumption | rfl) dX3_hit_11 ?_
  refine pm_getR (ci := 2) (j := 1) (n := 5) (by first | assumption | rfl) (by decide) (by decide) rfl fl_RX3_108 rfl (by first | assumption | rfl) dX3_hit_14 ?_
  refine pm_iload_n dX3_hit_17 rfl ?_
  refine pm_ialdN (by first | assumption | rfl) (by first | assumption | omega | decide) (by first | decide | omega) dX3_hit_18 ?_
  rw [hgi.2.1]
  refine pm_istore (lv' := [some (.ref _), some (.int _), some (.int _), some (.int _), some (.int _)]) dX3_hit_19 (by decide) rfl ?_
  refine pm_aload_n dX3_hit_21 rfl ?_
  refine pm_getR (ci := 3) (j := 2) (n := 11) (by first | assumption | rfl) (by decide) (by decide) rfl fl_RX3_25 rfl (by first | assumption | rfl) dX3_hit_22 ?_
  refine pm_iload_n dX3_hit_25 rfl ?_
  refine pm_kaldN (by first | assumption | rfl) (by first | assumption | omega | decide) (by first | decide | omega) (by first | assumption | rfl) dX3_hit_26 ?_
  refine pm_getR (ci := 0) (j := 0) (n := 10) (by first | assumption | rfl) (by decide) (by decide) rfl fl_RX3_82 rfl (by first | assumption | rfl) dX3_hit_27 ?_
  refine pm_iconst (x := nI 1) dX3_hit_30 rfl ?_
  refine pm_dup2 dX3_hit_31 rfl rfl ?_
  refine pm_ialdN (by first | assumption | rfl) (by first | assumption | omega | decide) (by first | decide | omega) dX3_hit_32 ?_
  refine pm_iconst (x := 1) dX3_hit_33 rfl ?_
  refine pm_iadd dX3_hit_34 ?_
  refine pm_iastN (by first | assumption | rfl) (by first | assumption | omega | decide) (by first | decide | omega) dX3_hit_35 ?_
  have hR1 : hs_R (pm_s w (hb + 13 + 3 * p + 1) (upd (w.1 (hb + 13 + 3 * p + 1)) 1 (w.1 (hb + 13 + 3 * p + 1) 1 + 1))) hb (S.1, S.2.1, va_up S.2.2.1 p (ab_inc (S.2.2.1 p) 1), S.2.2.2) := hs_ask hR hp (as_inc (g3 p hp) 1) (fr_s (by omega) (by omega))
  have hf1 : fr_out w (pm_s w (hb + 13 + 3 * p + 1) (upd (w.1 (hb + 13 + 3 * p + 1)) 1 (w.1 (hb + 13 + 3 * p + 1) 1 + 1))) hb (hb + 25) := fr_s (by omega) (by omega)
  generalize pm_s w (hb + 13 + 3 * p + 1) (upd (w.1 (hb + 13 + 3 * p + 1)) 1 (w.1 (hb + 13 + 3 * p + 1) 1 + 1)) = w1 at hR1 hf1 ⊢
  refine pm_aload_n dX3_hit_36 rfl ?_
  refine pm_getR (ci := 3) (j := 0) (n := 11) (by first | assumption | rfl) (by decide) (by decide) rfl fl_RX3_14 rfl (by first | assumption | rfl) dX3_hit_37 ?_
  refine pm_getR (ci := 2) (j := 2) (n := 5) (by first | assumption | rfl) (by decide) (by decide) rfl fl_RX3_111 rfl (by first | assumption | rfl) dX3_hit_40 ?_
  refine pm_iload_n dX3_hit_43 rfl ?_
  refine pm_ialdN (by first | assumption | rfl) (by first | assumption | omega | decide) (by first | decide | omega) dX3_hit_44 ?_
  rw [(hR1.1.2.1 i e hei).2.2]
  refine pm_iconst (x := 1) dX3_hit_45 rfl ?_
  refine pm_icmp_ne (tgt := 59) dX3_hit_46 (by decide) (fun c46 => ?_) (fun c46 => ?_)
  · refine pm_aload_n dX3_hit_59 rfl ?_
    refine pm_getR (ci := 3) (j := 0) (n := 11) (by first | assumption | rfl) (by decide) (by decide) rfl fl_RX3_14 rfl (by first | assumption | rfl) dX3_hit_60 ?_
    refine pm_iload_n dX3_hit_63 rfl ?_
    refine pm_cVv (as := [.int _]) (by first | assumption | rfl) (by decide) rfl ml_RX3_117 (by decide) (Nat.le_of_ble_eq_true rfl) dX3_hit_64 (c_X2_remove hdr (by decide) (l := S.1) hR1.1 (by show S.1.length ≤ 12; omega) hei heo4) (fun w3 hq => ?_)
    obtain ⟨p1, hf3⟩ := hq
    refine pm_aload_n dX3_hit_67 rfl ?_
    refine pm_getR (ci := 3) (j := 0) (n := 11) (by first | assumption | rfl) (by decide) (by decide) rfl fl_RX3_14 rfl (by first | assumption | rfl) dX3_hit_68 ?_
    refine pm_iload_n dX3_hit_71 rfl ?_
    refine pm_iload dX3_hit_72 rfl ?_
    refine pm_iconst (x := 0) dX3_hit_74 rfl ?_
    refine pm_cVv (as := [.int _, .int _, .int _]) (by first | assumption | rfl) (by decide) rfl ml_RX3_120 (by decide) (Nat.le_of_ble_eq_true rfl) dX3_hit_75 (c_X2_add hdr (by decide) p1 (by rw [List.length_eraseIdx, if_pos hi]; omega) (by rw [List.length_eraseIdx, if_pos hi]; omega) e.1 heo4 0) (fun w4 hq => ?_)
    obtain ⟨p4, hf4⟩ := hq
    refine pm_vret dX3_hit_78 rfl ?_
    have hz : fr_out w1 w4 (hb + 1) (hb + 1 + 5) := fr_tr hf3 hf4
    refine ⟨?_, fr_tr hf1 (fr_wd hz (by omega) (by omega))⟩
    rw [if_neg c46]
    exact hs_room hR1 p4 hz
  · refine pm_aload_n dX3_hit_49 rfl ?_
    refine pm_getR (ci := 3) (j := 2) (n := 11) (by first | assumption | rfl) (by decide) (by decide) rfl fl_RX3_25 rfl (by first | assumption | rfl) dX3_hit_50 ?_
    refine pm_iload dX3_hit_53 rfl ?_
    refine pm_kaldN (by first | assumption | rfl) (by first | assumption | omega | decide) (by first | decide | omega) (by first | assumption | rfl) dX3_hit_55 ?_
    refine pm_cVv (as := []) (by first | assumption | rfl) (by decide) rfl ml_RX3_114 (by decide) (Nat.le_of_ble_eq_true rfl) dX3_hit_56 (c_X0_countSaved (hap e.2.1 heo.1).2 (hR1.2.2.1 e.2.1 heo.1)) (fun w2 hq => ?_)
    obtain ⟨q1, -, q3⟩ := hq
    have hR2 := hs_ask hR1 heo4 q1 q3
    have hf2 := fr_tr hf1 (fr_wd q3 (lo' := hb) (hi' := hb + 25) (by omega) (by omega))
    refine pm_aload_n dX3_hit_59 rfl ?_
    refine pm_getR (ci := 3) (j := 0) (n := 11) (by first | assumption | rfl) (by decide) (by decide) rfl fl_RX3_14 rfl (by first | assumption | rfl) dX3_hit_60 ?_
    refine pm_iload_n dX3_hit_63 rfl ?_
    refine pm_cVv (as := [.int _]) (by first | assumption | rfl) (by decide) rfl ml_RX3_117 (by decide) (Nat.le_of_ble_eq_true rfl) dX3_hit_64 (c_X2_remove hdr (by decide) (l := S.1) hR2.1 (by show S.1.length ≤ 12; omega) hei heo4) (fun w3 hq => ?_)
    obtain ⟨p1, hf3⟩ := hq
    refine pm_aload_n dX3_hit_67 rfl ?_
    refine pm_getR (ci := 3) (j := 0) (n := 11) (by first | assumption | rfl) (by decide) (by decide) rfl fl_RX3_14 rfl (by first | assumption | rfl) dX3_hit_68 ?_
    refine pm_iload_n dX3_hit_71 rfl ?_
    refine pm_iload dX3_hit_72 rfl ?_
    refine pm_iconst (x := 0) dX3_hit_74 rfl ?_
    refine pm_cVv (as := [.int _, .int _, .int _]) (by first | assumption | rfl) (by decide) rfl ml_RX3_120 (by decide) (Nat.le_of_ble_eq_true rfl) dX3_hit_75 (c_X2_add hdr (by decide) p1 (by rw [List.length_eraseIdx, if_pos hi]; omega) (by rw [List.length_eraseIdx, if_pos hi]; omega) e.1 heo4 0) (fun w4 hq => ?_)
    obtain ⟨p4, hf4⟩ := hq
    refine pm_vret dX3_hit_78 rfl ?_
    have hz : fr_out w2 w4 (hb + 1) (hb + 1 + 5) := fr_tr hf3 hf4
    refine ⟨?_, fr_tr hf2 (fr_wd hz (by omega) (by omega))⟩
    rw [if_pos c46]
    exact hs_room hR2 p4 hz

set_option maxRecDepth 4000 in
theorem c_X3_wishOne {L : pm_L} {hb : Nat} (hk : hs_ok L hb) {w : pm_W} {S : ab_S} (hR : hs_R w hb S) (hI : ab_I S) {p : Nat} (hp : p < 4) (b : Int32) : pm_C L MX3_wishOne [.ref hb, .int (nI p), .int b] w (pm_qv fun w1 => hs_R w1 hb (ab_w1 S p b) ∧ fr_out w w1 hb (hb + 25)) := by
  obtain ⟨e1, e2, e3, e4, e5, e6, e7, hdr, hdl, hap⟩ := id hk
  obtain ⟨r1, r2, r3, r4, r5, r6, r7, r8, r9⟩ := id hdr
  obtain ⟨l1, l2, l3, l4, l5, l6, l7, l8, l9⟩ := id hdl
  obtain ⟨g1, g2, g3, g4, g5, g6⟩ := id hR
  obtain ⟨⟨sp, i1, i2, i3, i4⟩, i5, i6, i7, i8, i9, i10, i11, i12⟩ := id hI
  refine pm_start (lv := [some (.ref _), some (.int _), some (.int _)]) (plainFor_of_name pf3) (Nat.le_of_ble_eq_true rfl) rfl ?_
  refine pm_iload_n dX3_wishOne_0 rfl ?_
  refine pm_cNi (as := [.int _]) ml_RX3_195 (by decide) (Nat.le_of_ble_eq_true rfl) dX3_wishOne_1 (c_X4_isBlock L _ b) (fun x1 w1 hq => ?_)
  obtain ⟨rfl, hw9⟩ := hq
  have hw9 := hw9.symm
  subst hw9
  refine pm_if_eq (tgt := 51) dX3_wishOne_4 (by decide) (fun c4 => ?_) (fun c4 => ?_)
  · refine pm_vret dX3_wishOne_51 rfl ?_
    rw [pm_z_0] at c4
    refine ⟨?_, fr_rf _ _ _⟩
    rw [ab_w1, if_neg]
    · exact hR
    · rintro ⟨z1, z2, z3, z4⟩
      rw [c4] at z1
      cases z1
  · rw [pm_z_1] at c4
    refine pm_aload_n dX3_wishOne_7 rfl ?_
    refine pm_getR (ci := 3) (j := 1) (n := 11) (by first | assumption | rfl) (by decide) (by decide) rfl fl_RX3_20 rfl (by first | assumption | rfl) dX3_wishOne_8 ?_
    refine pm_cVi (as := []) (by first | assumption | rfl) (by decide) rfl ml_RX3_198 (by decide) (Nat.le_of_ble_eq_true rfl) dX3_wishOne_11 (c_X2_hasPlace hdl (by decide) g2 i5) (fun x1 w1 hq => ?_)
    obtain ⟨rfl, hw9⟩ := hq
    have hw9 := hw9.symm
    subst hw9
    refine pm_if_eq (tgt := 51) dX3_wishOne_14 (by decide) (fun c14 => ?_) (fun c14 => ?_)
    · refine pm_vret dX3_wishOne_51 rfl ?_
      rw [pm_z_0, decide_eq_false_iff_not] at c14
      refine ⟨?_, fr_rf _ _ _⟩
      rw [ab_w1, if_neg]
      · exact hR
      · rintro ⟨z1, z2, z3, z4⟩
        exact c14 z2
    · rw [pm_z_1, decide_eq_true_eq] at c14
      refine pm_aload_n dX3_wishOne_17 rfl ?_
      refine pm_getR (ci := 3) (j := 0) (n := 11) (by first | assumption | rfl) (by decide) (by decide) rfl fl_RX3_14 rfl (by first | assumption | rfl) dX3_wishOne_18 ?_
      refine pm_iload_n dX3_wishOne_21 rfl ?_
      refine pm_cVi (as := [.int _]) (by first | assumption | rfl) (by decide) rfl ml_RX3_85 (by decide) (Nat.le_of_ble_eq_true rfl) dX3_wishOne_22 (c_X2_find hdr (by decide) g1 (by omega) b) (fun x1 w1 hq => ?_)
      obtain ⟨rfl, hw9⟩ := hq
      have hw9 := hw9.symm
      subst hw9
      refine pm_iconst (x := -1) dX3_wishOne_25 rfl ?_
      refine pm_icmp_ne (tgt := 51) dX3_wishOne_26 (by decide) (fun c26 => ?_) (fun c26 => ?_)
      · refine pm_vret dX3_wishOne_51 rfl ?_
        rw [enc_m1 (fi_le _ _) (by omega)] at c26
        refine ⟨?_, fr_rf _ _ _⟩
        rw [ab_w1, if_neg]
        · exact hR
        · rintro ⟨z1, z2, z3, z4⟩
          exact c26 z3
      · rw [enc_m1 (fi_le _ _) (by omega)] at c26
        refine pm_aload_n dX3_wishOne_29 rfl ?_
        refine pm_getR (ci := 3) (j := 1) (n := 11) (by first | assumption | rfl) (by decide) (by decide) rfl fl_RX3_20 rfl (by first | assumption | rfl) dX3_wishOne_30 ?_
        refine pm_iload_n dX3_wishOne_33 rfl ?_
        refine pm_cVi (as := [.int _]) (by first | assumption | rfl) (by decide) rfl ml_RX3_85 (by decide) (Nat.le_of_ble_eq_true rfl) dX3_wishOne_34 (c_X2_find hdl (by decide) g2 i5 b) (fun x1 w1 hq => ?_)
        obtain ⟨rfl, hw9⟩ := hq
        have hw9 := hw9.symm
        subst hw9
        refine pm_iconst (x := -1) dX3_wishOne_37 rfl ?_
        refine pm_icmp_ne (tgt := 51) dX3_wishOne_38 (by decide) (fun c38 => ?_) (fun c38 => ?_)
        · refine pm_vret dX3_wishOne_51 rfl ?_
          rw [enc_m1 (fi_le _ _) (by omega)] at c38
          refine ⟨?_, fr_rf _ _ _⟩
          rw [ab_w1, if_neg]
          · exact hR
          · rintro ⟨z1, z2, z3, z4⟩
            exact c38 z4
        · rw [enc_m1 (fi_le _ _) (by omega)] at c38
          refine pm_aload_n dX3_wishOne_41 rfl ?_
          refine pm_getR (ci := 3) (j := 1) (n := 11) (by first | assumption | rfl) (by decide) (by decide) rfl fl_RX3_20 rfl (by first | assumption | rfl) dX3_wishOne_42 ?_
          refine pm_iload_n dX3_wishOne_45 rfl ?_
          refine pm_iload_n dX3_wishOne_46 rfl ?_
          refine pm_iconst (x := 1) dX3_wishOne_47 rfl ?_
          refine pm_cVv (as := [.int _, .int _, .int _]) (by first | assumption | rfl) (by decide) rfl ml_RX3_120 (by decide) (Nat.le_of_ble_eq_true rfl) dX3_wishOne_48 (c_X2_add hdl (by decide) g2 i5 c14 b hp 1) (fun w1 hq => ?_)
          obtain ⟨p1, hf1⟩ := hq
          refine pm_vret dX3_wishOne_51 rfl ?_
          refine ⟨?_, fr_wd hf1 (by omega) (by omega)⟩
          rw [ab_w1, if_pos ⟨c4, c14, c26, c38⟩]
          exact hs_line hR p1 hf1

theorem c_X3_wishBySteps {L : pm_L} {hb : Nat} (hk : hs_ok L hb) {w : pm_W} {S : ab_S} (hR : hs_R w hb S) (hI : ab_I S) {p : Nat} (hp : p < 4) (b stp : Int32) {n : Nat} (hn : n ≤ 1000) : pm_C L MX3_wishBySteps [.ref hb, .int (nI p), .int b, .int stp, .int (nI n)] w (pm_qv fun w1 => hs_R w1 hb (ab_ws S p (fun i => b + nI i * stp) n) ∧ fr_out w w1 hb (hb + 25)) := by
  obtain ⟨e1, e2, e3, e4, e5, e6, e7, hdr, hdl, hap⟩ := id hk
  obtain ⟨r1, r2, r3, r4, r5, r6, r7, r8, r9⟩ := id hdr
  obtain ⟨l1, l2, l3, l4, l5, l6, l7, l8, l9⟩ := id hdl
  obtain ⟨g1, g2, g3, g4, g5, g6⟩ := id hR
  obtain ⟨⟨sp, i1, i2, i3, i4⟩, i5, i6, i7, i8, i9, i10, i11, i12⟩ := id hI
  have loop : ∀ i, i ≤ n → ∀ w1, hs_R w1 hb (ab_ws S p (fun i => b + nI i * stp) i) → fr_out w w1 hb (hb + 25) → pm_R L MX3_wishBySteps 3 [some (.ref hb), some (.int (nI p)), some (.int b), some (.int stp), some (.int (nI n)), some (.int (nI (i + 1)))] [] w1 (pm_qv fun w1 => hs_R w1 hb (ab_ws S p (fun i => b + nI i * stp) n) ∧ fr_out w w1 hb (hb + 25)) := by
    refine up_loop n (fun i hi ih w1 hR1 hf1 => ?_)
    refine pm_iload dX3_wishBySteps_3 rfl ?_
    refine pm_iload dX3_wishBySteps_5 rfl ?_
    refine pm_icmp_gt (tgt := 27) dX3_wishBySteps_7 (by decide) (fun c7 => ?_) (fun c7 => ?_)
    · refine pm_vret dX3_wishBySteps_27 rfl ?_
      rw [nI_ltI (by omega) (by omega)] at c7
      have : i = n := by omega
      subst this
      exact ⟨hR1, hf1⟩
    · refine pm_aload_n dX3_wishBySteps_10 rfl ?_
      refine pm_iload_n dX3_wishBySteps_11 rfl ?_
      refine pm_iload_n dX3_wishBySteps_12 rfl ?_
      refine pm_iload dX3_wishBySteps_13 rfl ?_
      refine pm_iload_n dX3_wishBySteps_15 rfl ?_
      refine pm_imul dX3_wishBySteps_16 ?_
      refine pm_iadd dX3_wishBySteps_17 ?_
      refine pm_cVv (as := [.int _, .int _]) (by first | assumption | rfl) (by decide) rfl ml_RX3_189 (by decide) (Nat.le_of_ble_eq_true rfl) dX3_wishBySteps_18 (c_X3_wishOne hk hR1 (I_ws hI hp _ i) hp _) (fun w2 hq => ?_)
      obtain ⟨hR2, hf2⟩ := hq
      refine pm_iinc (y := _ + 1) (lv' := [some (.ref _), some (.int _), some (.int _), some (.int _), some (.int _), some (.int _)]) dX3_wishBySteps_21 rfl rfl (by decide) rfl ?_
      refine pm_goto (tgt := 3) dX3_wishBySteps_24 (by decide) ?_
      rw [nI_ltI (by omega) (by omega)] at c7
      rw [nI_1]
      exact ih (by omega) _ hR2 (fr_tr hf1 hf2)
  refine pm_start (lv := [some (.ref _), some (.int _), some (.int _), some (.int _), some (.int _), none]) (plainFor_of_name pf3) (Nat.le_of_ble_eq_true rfl) rfl ?_
  refine pm_iconst (x := nI 1) dX3_wishBySteps_0 rfl ?_
  refine pm_istore (lv' := [some (.ref _), some (.int _), some (.int _), some (.int _), some (.int _), some (.int _)]) dX3_wishBySteps_1 (by decide) rfl ?_
  exact loop 0 (Nat.zero_le _) w hR (fr_rf _ _ _)

theorem ix_lt {x : Int32} {n : Nat} {hi : Int32} (h : 0 ≤ x ∧ x ≤ hi) (hn : hi.toInt < n) : x.toNatClampNeg < n := by
  have h1 := ix_in h hn
  rcases Nat.lt_or_ge x.toNatClampNeg n with q | q
  · exact q
  · exact absurd (Or.inr q) h1
set_option maxRecDepth 4000 in
theorem c_X3_wishWhatFollowed {L : pm_L} {hb : Nat} (hk : hs_ok L hb) {w : pm_W} {S : ab_S} (hR : hs_R w hb S) (hI : ab_I S) {p : Nat} (hp : p < 4) {b : Int32} (hb3 : 0 ≤ b ∧ b ≤ 63) {r : Nat} (hr : (S.2.2.1 p).1 3 = nI r) (hr8 : r ≤ 8) : pm_C L MX3_wishWhatFollowed [.ref hb, .int (nI p), .int b] w (pm_qv fun w1 => hs_R w1 hb (ab_wf r S p ((S.2.2.1 p).2.2 b.toNatClampNeg)) ∧ fr_out w w1 hb (hb + 25)) := by
  obtain ⟨e1, e2, e3, e4, e5, e6, e7, hdr, hdl, hap⟩ := id hk
  obtain ⟨r1, r2, r3, r4, r5, r6, r7, r8, r9⟩ := id hdr
  obtain ⟨l1, l2, l3, l4, l5, l6, l7, l8, l9⟩ := id hdl
  obtain ⟨g1, g2, g3, g4, g5, g6⟩ := id hR
  obtain ⟨⟨sp, i1, i2, i3, i4⟩, i5, i6, i7, i8, i9, i10, i11, i12⟩ := id hI
  obtain ⟨ha0, ⟨a1, a2, a3, a4, a5⟩⟩ := hap p hp
  have loop : ∀ (m k : Nat) (w1 : pm_W) (S1 : ab_S) (at_ : Int32), k + m = r → S1.2.2.1 = S.2.2.1 → hs_R w1 hb S1 → ab_I S1 → (at_ = -1 ∨ (0 ≤ at_ ∧ at_ ≤ 63)) → fr_out w w1 hb (hb + 25) → pm_R L MX3_wishWhatFollowed 18 [some (.ref hb), some (.int (nI p)), some (.int b), some (.ref (hb + 13 + 3 * p)), some (.int at_), some (.int (nI k))] [] w1 (pm_qv fun w2 => hs_R w2 hb (ab_wf m S1 p at_) ∧ fr_out w w2 hb (hb + 25)) := by
    intro m
    induction m with
    | zero =>
      intro k w1 S1 at_ hkm hak hR1 hI1 hat hf1
      refine pm_iload dX3_wishWhatFollowed_18 rfl ?_
      refine pm_aload_n dX3_wishWhatFollowed_20 rfl ?_
      refine pm_getI (ci := 0) (j := 3) (n := 10) (by first | assumption | rfl) (by decide) (by decide) rfl fl_RX3_163 rfl dX3_wishWhatFollowed_21 ?_
      rw [show w1.1 (hb + 13 + 3 * p) 3 = nI r from ((hR1.2.2.1 p hp).1 3 (by decide) (by decide)).trans (by rw [hak]; exact hr)]
      refine pm_icmp_ge (tgt := 55) dX3_wishWhatFollowed_24 (by decide) (fun c24 => ?_) (fun c24 => absurd (by rw [nI_leI (by omega) (by omega)]; omega) c24)
      refine pm_vret dX3_wishWhatFollowed_55 rfl ?_
      exact ⟨hR1, hf1⟩
    | succ m ih =>
      intro k w1 S1 at_ hkm hak hR1 hI1 hat hf1
      refine pm_iload dX3_wishWhatFollowed_18 rfl ?_
      refine pm_aload_n dX3_wishWhatFollowed_20 rfl ?_
      refine pm_getI (ci := 0) (j := 3) (n := 10) (by first | assumption | rfl) (by decide) (by decide) rfl fl_RX3_163 rfl dX3_wishWhatFollowed_21 ?_
      rw [show w1.1 (hb + 13 + 3 * p) 3 = nI r from ((hR1.2.2.1 p hp).1 3 (by decide) (by decide)).trans (by rw [hak]; exact hr)]
      refine pm_icmp_ge (tgt := 55) dX3_wishWhatFollowed_24 (by decide) (fun c24 => absurd c24 (by rw [nI_leI (by omega) (by omega)]; omega)) (fun c24 => ?_)
      refine pm_iload dX3_wishWhatFollowed_27 rfl ?_
      refine pm_iconst (x := -1) dX3_wishWhatFollowed_29 rfl ?_
      refine pm_icmp_eq (tgt := 55) dX3_wishWhatFollowed_30 (by decide) (fun c30 => ?_) (fun c30 => ?_)
      · refine pm_vret dX3_wishWhatFollowed_55 rfl ?_
        rw [ab_wf, if_pos c30]
        exact ⟨hR1, hf1⟩
      · have hatr := hat.resolve_left c30
        refine pm_aload_n dX3_wishWhatFollowed_33 rfl ?_
        refine pm_iload_n dX3_wishWhatFollowed_34 rfl ?_
        refine pm_iload dX3_wishWhatFollowed_35 rfl ?_
        refine pm_cVv (as := [.int _, .int _]) (by first | assumption | rfl) (by decide) rfl ml_RX3_189 (by decide) (Nat.le_of_ble_eq_true rfl) dX3_wishWhatFollowed_37 (c_X3_wishOne hk hR1 hI1 hp _) (fun w2 hq => ?_)
        obtain ⟨hR2, hf2⟩ := hq
        refine pm_aload_n dX3_wishWhatFollowed_40 rfl ?_
        refine pm_getR (ci := 0) (j := 1) (n := 10) (by first | assumption | rfl) (by decide) (by decide) rfl fl_RX3_192 rfl (by first | assumption | rfl) dX3_wishWhatFollowed_41 ?_
        refine pm_iload dX3_wishWhatFollowed_44 rfl ?_
        refine pm_iald (by first | assumption | rfl) (by exact ix_in hatr (by decide)) dX3_wishWhatFollowed_46 ?_
        rw [show w2.1 (hb + 13 + 3 * p + 2) at_.toNatClampNeg = (S1.2.2.1 p).2.2 at_.toNatClampNeg by rw [(hR2.2.2.1 p hp).2.2 _ (ix_lt hatr (by decide)), w1_ask]]
        refine pm_istore (lv' := [some (.ref _), some (.int _), some (.int _), some (.ref _), some (.int _), some (.int _)]) dX3_wishWhatFollowed_47 (by decide) rfl ?_
        refine pm_iinc (y := _ + 1) (lv' := [some (.ref _), some (.int _), some (.int _), some (.ref _), some (.int _), some (.int _)]) dX3_wishWhatFollowed_49 rfl rfl (by decide) rfl ?_
        refine pm_goto (tgt := 18) dX3_wishWhatFollowed_52 (by decide) ?_
        rw [nI_1, ab_wf, if_neg c30]
        exact ih (k + 1) _ _ _ (by omega) (by rw [w1_ask]; exact hak) hR2 (I_w1 hI1 hp _) ((hI1.2.2.2.2.2.1 p hp).2.1 _ (ix_lt hatr (by decide))) (fr_tr hf1 hf2)
  refine pm_start (lv := [some (.ref _), some (.int _), some (.int _), none, none, none]) (plainFor_of_name pf3) (Nat.le_of_ble_eq_true rfl) rfl ?_
  refine pm_aload_n dX3_wishWhatFollowed_0 rfl ?_
  refine pm_getR (ci := 3) (j := 2) (n := 11) (by first | assumption | rfl) (by decide) (by decide) rfl fl_RX3_25 rfl (by first | assumption | rfl) dX3_wishWhatFollowed_1 ?_
  refine pm_iload_n dX3_wishWhatFollowed_4 rfl ?_
  refine pm_kaldN (by first | assumption | rfl) (by first | assumption | omega | decide) (by first | decide | omega) (by first | assumption | rfl) dX3_wishWhatFollowed_5 ?_
  refine pm_astore_n (lv' := [some (.ref _), some (.int _), some (.int _), some (.ref _), none, none]) dX3_wishWhatFollowed_6 (by decide) rfl ?_
  refine pm_aload_n dX3_wishWhatFollowed_7 rfl ?_
  refine pm_getR (ci := 0) (j := 1) (n := 10) (by first | assumption | rfl) (by decide) (by decide) rfl fl_RX3_192 rfl (by first | assumption | rfl) dX3_wishWhatFollowed_8 ?_
  refine pm_iload_n dX3_wishWhatFollowed_11 rfl ?_
  refine pm_iald (by first | assumption | rfl) (by exact ix_in hb3 (by decide)) dX3_wishWhatFollowed_12 ?_
  rw [(g3 p hp).2.2 _ (ix_lt hb3 (by decide))]
  refine pm_istore (lv' := [some (.ref _), some (.int _), some (.int _), some (.ref _), some (.int _), none]) dX3_wishWhatFollowed_13 (by decide) rfl ?_
  refine pm_iconst (x := 0) dX3_wishWhatFollowed_15 rfl ?_
  refine pm_istore (lv' := [some (.ref _), some (.int _), some (.int _), some (.ref _), some (.int _), some (.int _)]) dX3_wishWhatFollowed_16 (by decide) rfl ?_
  exact loop r 0 w S _ (by omega) rfl hR hI ((i9 p hp).2.1 _ (ix_lt hb3 (by decide))) (fr_rf _ _ _)
end
section
theorem hint_n {A : ab_A} (h : ab_aok A) {b : Int32} (hs : ab_sp A b = true) : (0 ≤ b ∧ b ≤ 63) ∧ ∃ n, ab_min (A.1 3) (A.1 6 - b) = nI n ∧ n ≤ 8 := by
  obtain ⟨-, -, -, h4, h5, -⟩ := h
  simp only [ab_sp, Bool.and_eq_true, Bool.not_eq_true', decide_eq_false_iff_not, decide_eq_true_eq] at hs
  obtain ⟨s1, s2, s3⟩ := hs
  obtain ⟨f1, f2, f3, -⟩ := h5.resolve_left s1
  have hb0 : 0 ≤ b := Int32.le_trans f1 s2
  have hb63 : b ≤ 63 := Int32.le_trans s3 f3
  obtain ⟨c, hc, rfl⟩ := nI_of2 (n := 63) (M := 63) (by decide) (Int32.not_lt.mpr hb0) hb63
  obtain ⟨t, ht, et⟩ := nI_of2 (n := 63) (M := 63) (by decide) (Int32.not_lt.mpr (Int32.le_trans hb0 s3)) f3
  obtain ⟨r, hr, er⟩ := nI_of2 (n := 8) (M := 8) (by decide) (Int32.not_lt.mpr h4.1) h4.2
  refine ⟨⟨hb0, hb63⟩, ?_⟩
  rw [et] at s3 ⊢
  rw [nI_leI (by omega) (by omega)] at s3
  rw [er, pk_sub s3, ab_min]
  by_cases hq : nI (t - c) < nI r
  · rw [if_pos hq]
    rw [nI_ltI (by omega) (by omega)] at hq
    exact ⟨t - c, rfl, by omega⟩
  · rw [if_neg hq]
    exact ⟨r, rfl, hr⟩

set_option maxRecDepth 4000 in
theorem c_X3_wish {L : pm_L} {hb : Nat} (hk : hs_ok L hb) {w : pm_W} {S : ab_S} (hR : hs_R w hb S) (hI : ab_I S) {p : Nat} (hp : p < 4) {b : Int32} (hb3 : 0 ≤ b ∧ b ≤ 63) {sd : Bool} (hsd : (!decide ((S.2.2.1 p).1 8 = 0) && decide ((S.2.2.1 p).1 8 = w.1 (hb + 13 + 3 * p) 9)) = sd) : pm_C L MX3_wish [.ref hb, .int (nI p), .int b] w (pm_qv fun w1 => hs_R w1 hb (ab_wish S p b sd) ∧ fr_out w w1 hb (hb + 25)) := by
  obtain ⟨e1, e2, e3, e4, e5, e6, e7, hdr, hdl, hap⟩ := id hk
  obtain ⟨r1, r2, r3, r4, r5, r6, r7, r8, r9⟩ := id hdr
  obtain ⟨l1, l2, l3, l4, l5, l6, l7, l8, l9⟩ := id hdl
  obtain ⟨g1, g2, g3, g4, g5, g6⟩ := id hR
  obtain ⟨⟨sp, i1, i2, i3, i4⟩, i5, i6, i7, i8, i9, i10, i11, i12⟩ := id hI
  obtain ⟨ha0, ⟨a1, a2, a3, a4, a5⟩⟩ := hap p hp
  obtain ⟨kd, hkd, ekd⟩ := nI_of2 (n := 5) (M := 5) (by decide) (Int32.not_lt.mpr (i9 p hp).2.2.1.1) (i9 p hp).2.2.1.2
  obtain ⟨r, hr8, er⟩ := nI_of2 (n := 8) (M := 8) (by decide) (Int32.not_lt.mpr (i9 p hp).2.2.2.1.1) (i9 p hp).2.2.2.1.2
  refine pm_start (lv := [some (.ref _), some (.int _), some (.int _), none]) (plainFor_of_name pf3) (Nat.le_of_ble_eq_true rfl) rfl ?_
  refine pm_aload_n dX3_wish_0 rfl ?_
  refine pm_getR (ci := 3) (j := 2) (n := 11) (by first | assumption | rfl) (by decide) (by decide) rfl fl_RX3_25 rfl (by first | assumption | rfl) dX3_wish_1 ?_
  refine pm_iload_n dX3_wish_4 rfl ?_
  refine pm_kaldN (by first | assumption | rfl) (by first | assumption | omega | decide) (by first | decide | omega) (by first | assumption | rfl) dX3_wish_5 ?_
  refine pm_astore_n (lv' := [some (.ref _), some (.int _), some (.int _), some (.ref _)]) dX3_wish_6 (by decide) rfl ?_
  refine pm_aload_n dX3_wish_7 rfl ?_
  refine pm_getI (ci := 0) (j := 2) (n := 10) (by first | assumption | rfl) (by decide) (by decide) rfl fl_RX3_160 rfl dX3_wish_8 ?_
  rw [show w.1 (hb + 13 + 3 * p) 2 = nI kd from ((g3 p hp).1 2 (by decide) (by decide)).trans ekd]
  rcases (show kd = 0 ∨ kd = 1 ∨ kd = 2 ∨ kd = 3 ∨ kd = 4 ∨ kd = 5 by omega) with rfl | rfl | rfl | rfl | rfl | rfl
  · refine pm_tableOut (tgt := 122) dX3_wish_11 (Or.inl (by decide)) (by decide) ?_
    refine pm_vret dX3_wish_122 rfl ?_
    refine ⟨?_, fr_rf _ _ _⟩
    rw [ab_wish, if_neg (by rw [ekd]; decide), if_neg (by rw [ekd]; decide), if_neg (by rw [ekd]; decide), if_neg (by rw [ekd]; decide)]
    exact hR
  · refine pm_tableIn (off := 33) (tgt := 44) dX3_wish_11 (by decide) (by decide) (by decide) (by decide) ?_
    refine pm_aload_n dX3_wish_44 rfl ?_
    refine pm_iload_n dX3_wish_45 rfl ?_
    refine pm_iload_n dX3_wish_46 rfl ?_
    refine pm_iconst (x := 1) dX3_wish_47 rfl ?_
    refine pm_aload_n dX3_wish_48 rfl ?_
    refine pm_getI (ci := 0) (j := 3) (n := 10) (by first | assumption | rfl) (by decide) (by decide) rfl fl_RX3_163 rfl dX3_wish_49 ?_
    rw [show w.1 (hb + 13 + 3 * p) 3 = nI r from ((g3 p hp).1 3 (by decide) (by decide)).trans er]
    refine pm_cVv (as := [.int _, .int _, .int _, .int _]) (by first | assumption | rfl) (by decide) rfl ml_RX3_166 (by decide) (Nat.le_of_ble_eq_true rfl) dX3_wish_52 (c_X3_wishBySteps hk hR hI hp b 1 (n := r) (by omega)) (fun w1 hq => ?_)
    obtain ⟨q1, q2⟩ := hq
    refine pm_goto (tgt := 122) dX3_wish_55 (by decide) ?_
    refine pm_vret dX3_wish_122 rfl ?_
    refine ⟨?_, q2⟩
    rw [ab_wish, if_pos (show (S.2.2.1 p).1 2 = 1 ∨ (S.2.2.1 p).1 2 = 5 from Or.inl ekd), er, nI_clamp (by omega)]
    exact q1
  · refine pm_tableIn (off := 47) (tgt := 58) dX3_wish_11 (by decide) (by decide) (by decide) (by decide) ?_
    refine pm_aload_n dX3_wish_58 rfl ?_
    refine pm_cVi (as := []) (by first | assumption | rfl) (by decide) rfl ml_RX3_170 (by decide) (Nat.le_of_ble_eq_true rfl) dX3_wish_59 (c_X0_isSteady (hap p hp).2 (g3 p hp)) (fun x1 w1 hq => ?_)
    obtain ⟨rfl, hw9⟩ := hq
    have hw9 := hw9.symm
    subst hw9
    refine pm_if_eq (tgt := 122) dX3_wish_62 (by decide) (fun c62 => ?_) (fun c62 => ?_)
    · refine pm_vret dX3_wish_122 rfl ?_
      rw [hsd, pm_z_0] at c62
      refine ⟨?_, fr_rf _ _ _⟩
      rw [ab_wish, if_neg (by rw [ekd]; decide), if_pos (show (S.2.2.1 p).1 2 = 2 from ekd), if_neg (by rw [c62]; decide)]
      exact hR
    · refine pm_aload_n dX3_wish_65 rfl ?_
      refine pm_iload_n dX3_wish_66 rfl ?_
      refine pm_iload_n dX3_wish_67 rfl ?_
      refine pm_aload_n dX3_wish_68 rfl ?_
      refine pm_getI (ci := 0) (j := 8) (n := 10) (by first | assumption | rfl) (by decide) (by decide) rfl fl_RX3_174 rfl dX3_wish_69 ?_
      rw [show w.1 (hb + 13 + 3 * p) 8 = (S.2.2.1 p).1 8 from (g3 p hp).1 8 (by decide) (by decide)]
      refine pm_aload_n dX3_wish_72 rfl ?_
      refine pm_getI (ci := 0) (j := 3) (n := 10) (by first | assumption | rfl) (by decide) (by decide) rfl fl_RX3_163 rfl dX3_wish_73 ?_
      rw [show w.1 (hb + 13 + 3 * p) 3 = nI r from ((g3 p hp).1 3 (by decide) (by decide)).trans er]
      refine pm_cVv (as := [.int _, .int _, .int _, .int _]) (by first | assumption | rfl) (by decide) rfl ml_RX3_166 (by decide) (Nat.le_of_ble_eq_true rfl) dX3_wish_76 (c_X3_wishBySteps hk hR hI hp b _ (n := r) (by omega)) (fun w1 hq => ?_)
      obtain ⟨q1, q2⟩ := hq
      refine pm_goto (tgt := 122) dX3_wish_79 (by decide) ?_
      refine pm_vret dX3_wish_122 rfl ?_
      rw [hsd, pm_z_1] at c62
      refine ⟨?_, q2⟩
      rw [ab_wish, if_neg (by rw [ekd]; decide), if_pos (show (S.2.2.1 p).1 2 = 2 from ekd), if_pos c62, er, nI_clamp (by omega)]
      exact q1
  · refine pm_tableIn (off := 71) (tgt := 82) dX3_wish_11 (by decide) (by decide) (by decide) (by decide) ?_
    refine pm_aload_n dX3_wish_82 rfl ?_
    refine pm_iload_n dX3_wish_83 rfl ?_
    refine pm_iload_n dX3_wish_84 rfl ?_
    refine pm_cVv (as := [.int _, .int _]) (by first | assumption | rfl) (by decide) rfl ml_RX3_177 (by decide) (Nat.le_of_ble_eq_true rfl) dX3_wish_85 (c_X3_wishWhatFollowed hk hR hI hp hb3 er hr8) (fun w1 hq => ?_)
    obtain ⟨q1, q2⟩ := hq
    refine pm_goto (tgt := 122) dX3_wish_88 (by decide) ?_
    refine pm_vret dX3_wish_122 rfl ?_
    refine ⟨?_, q2⟩
    rw [ab_wish, if_neg (by rw [ekd]; decide), if_neg (by rw [ekd]; decide), if_pos (show (S.2.2.1 p).1 2 = 3 from ekd), er, nI_clamp (by omega)]
    exact q1
  · refine pm_tableIn (off := 80) (tgt := 91) dX3_wish_11 (by decide) (by decide) (by decide) (by decide) ?_
    refine pm_aload_n dX3_wish_91 rfl ?_
    refine pm_iload_n dX3_wish_92 rfl ?_
    refine pm_cVi (as := [.int _]) (by first | assumption | rfl) (by decide) rfl ml_RX3_180 (by decide) (Nat.le_of_ble_eq_true rfl) dX3_wish_93 (c_X0_spans (hap p hp).2 (g3 p hp) _) (fun x1 w1 hq => ?_)
    obtain ⟨rfl, hw9⟩ := hq
    have hw9 := hw9.symm
    subst hw9
    refine pm_if_eq (tgt := 122) dX3_wish_96 (by decide) (fun c96 => ?_) (fun c96 => ?_)
    · refine pm_vret dX3_wish_122 rfl ?_
      rw [pm_z_0] at c96
      refine ⟨?_, fr_rf _ _ _⟩
      rw [ab_wish, if_neg (by rw [ekd]; decide), if_neg (by rw [ekd]; decide), if_neg (by rw [ekd]; decide), if_pos (show (S.2.2.1 p).1 2 = 4 from ekd), if_neg (by rw [c96]; decide)]
      exact hR
    · rw [pm_z_1] at c96
      obtain ⟨-, n1, hn1, hn2⟩ := hint_n (i9 p hp) c96
      refine pm_aload_n dX3_wish_99 rfl ?_
      refine pm_iload_n dX3_wish_100 rfl ?_
      refine pm_iload_n dX3_wish_101 rfl ?_
      refine pm_iconst (x := 1) dX3_wish_102 rfl ?_
      refine pm_aload_n dX3_wish_103 rfl ?_
      refine pm_getI (ci := 0) (j := 3) (n := 10) (by first | assumption | rfl) (by decide) (by decide) rfl fl_RX3_163 rfl dX3_wish_104 ?_
      rw [show w.1 (hb + 13 + 3 * p) 3 = (S.2.2.1 p).1 3 from (g3 p hp).1 3 (by decide) (by decide)]
      refine pm_aload_n dX3_wish_107 rfl ?_
      refine pm_getI (ci := 0) (j := 6) (n := 10) (by first | assumption | rfl) (by decide) (by decide) rfl fl_RX3_183 rfl dX3_wish_108 ?_
      rw [show w.1 (hb + 13 + 3 * p) 6 = (S.2.2.1 p).1 6 from (g3 p hp).1 6 (by decide) (by decide)]
      refine pm_iload_n dX3_wish_111 rfl ?_
      refine pm_isub dX3_wish_112 ?_
      refine pm_cSi (as := [.int _, .int _]) ml_RX3_186 (by decide) (Nat.le_of_ble_eq_true rfl) dX3_wish_113 (c_J9_min_7cf53 L _ _ _) (fun x1 w1 hq => ?_)
      obtain ⟨rfl, hw9⟩ := hq
      have hw9 := hw9.symm
      subst hw9
      rw [hn1]
      refine pm_cVv (as := [.int _, .int _, .int _, .int _]) (by first | assumption | rfl) (by decide) rfl ml_RX3_166 (by decide) (Nat.le_of_ble_eq_true rfl) dX3_wish_116 (c_X3_wishBySteps hk hR hI hp b 1 (n := n1) (by omega)) (fun w1 hq => ?_)
      obtain ⟨q1, q2⟩ := hq
      refine pm_goto (tgt := 122) dX3_wish_119 (by decide) ?_
      refine pm_vret dX3_wish_122 rfl ?_
      refine ⟨?_, q2⟩
      rw [ab_wish, if_neg (by rw [ekd]; decide), if_neg (by rw [ekd]; decide), if_neg (by rw [ekd]; decide), if_pos (show (S.2.2.1 p).1 2 = 4 from ekd), if_pos c96, hn1, nI_clamp (by omega)]
      exact q1
  · refine pm_tableIn (off := 33) (tgt := 44) dX3_wish_11 (by decide) (by decide) (by decide) (by decide) ?_
    refine pm_aload_n dX3_wish_44 rfl ?_
    refine pm_iload_n dX3_wish_45 rfl ?_
    refine pm_iload_n dX3_wish_46 rfl ?_
    refine pm_iconst (x := 1) dX3_wish_47 rfl ?_
    refine pm_aload_n dX3_wish_48 rfl ?_
    refine pm_getI (ci := 0) (j := 3) (n := 10) (by first | assumption | rfl) (by decide) (by decide) rfl fl_RX3_163 rfl dX3_wish_49 ?_
    rw [show w.1 (hb + 13 + 3 * p) 3 = nI r from ((g3 p hp).1 3 (by decide) (by decide)).trans er]
    refine pm_cVv (as := [.int _, .int _, .int _, .int _]) (by first | assumption | rfl) (by decide) rfl ml_RX3_166 (by decide) (Nat.le_of_ble_eq_true rfl) dX3_wish_52 (c_X3_wishBySteps hk hR hI hp b 1 (n := r) (by omega)) (fun w1 hq => ?_)
    obtain ⟨q1, q2⟩ := hq
    refine pm_goto (tgt := 122) dX3_wish_55 (by decide) ?_
    refine pm_vret dX3_wish_122 rfl ?_
    refine ⟨?_, q2⟩
    rw [ab_wish, if_pos (show (S.2.2.1 p).1 2 = 1 ∨ (S.2.2.1 p).1 2 = 5 from Or.inr ekd), er, nI_clamp (by omega)]
    exact q1
end
section
theorem hs_row {w : pm_W} {hb : Nat} {S : ab_S} (h : hs_R w hb S) (b : Int32) : hs_R (pm_s (pm_s w hb (upd (w.1 hb) 10 (nI (S.2.2.2.2.length + 1)))) (hb + 12) (upd ((pm_s w hb (upd (w.1 hb) 10 (nI (S.2.2.2.2.length + 1)))).1 (hb + 12)) ((S.2.2.2.2.length + 1) % 24) b)) hb (S.1, S.2.1, S.2.2.1, S.2.2.2.1, S.2.2.2.2 ++ [b]) := by
  obtain ⟨h1, h2, h3, h4, h5, h6⟩ := h
  have k : ∀ a, hb < a → a ≠ hb + 12 → (pm_s (pm_s w hb (upd (w.1 hb) 10 (nI (S.2.2.2.2.length + 1)))) (hb + 12) (upd ((pm_s w hb (upd (w.1 hb) 10 (nI (S.2.2.2.2.length + 1)))).1 (hb + 12)) ((S.2.2.2.2.length + 1) % 24) b)).1 a = w.1 a := fun a q1 q2 => by rw [pm_s_ne q2, pm_s_ne (by omega)]
  refine ⟨hd_R_cong h1 (fun a q1 q2 => k a (by omega) (by omega)), hd_R_cong h2 (fun a q1 q2 => k a (by omega) (by omega)), fun p hp => as_R_cong (h3 p hp) (fun a q1 q2 => k a (by omega) (by omega)), fun j q1 q2 => ?_, ?_, fun i x q1 q2 => ?_⟩
  · rw [pm_s_ne (by omega), pm_s_at, pk_un (by omega)]
    exact h4 j q1 q2
  · rw [pm_s_ne (by omega), pm_s_at, pk_us]
    show _ = nI (S.2.2.2.2 ++ [b]).length
    rw [List.length_append, List.length_singleton]
  · rw [pm_s_at]
    have q1 : (S.2.2.2.2 ++ [b])[i]? = some x := q1
    have q2 : (S.2.2.2.2 ++ [b]).length ≤ i + 24 := q2
    rw [List.length_append, List.length_singleton] at q2
    by_cases hi : i < S.2.2.2.2.length
    · rw [List.getElem?_append_left hi] at q1
      rw [pk_un (by omega), pm_s_ne (by omega)]
      exact h6 i x q1 (by omega)
    · have hl := (List.getElem?_eq_some_iff.mp q1).1
      rw [List.length_append, List.length_singleton] at hl
      have : i = S.2.2.2.2.length := by omega
      subst this
      rw [List.getElem?_append_right (by omega), Nat.sub_self] at q1
      cases q1
      exact pk_us
-- what a tick and the rest leave alone
def ab_kp (S T : ab_S) : Prop := T.2.2.2.2 = S.2.2.2.2 ∧ T.2.2.2.1 4 = S.2.2.2.1 4 ∧ T.2.2.2.1 5 = S.2.2.2.1 5 ∧ T.2.2.2.1 6 = S.2.2.2.1 6
theorem kp_tr {S T U : ab_S} (h : ab_kp S T) (k : ab_kp T U) : ab_kp S U := ⟨k.1.trans h.1, k.2.1.trans h.2.1, k.2.2.1.trans h.2.2.1, k.2.2.2.trans h.2.2.2⟩
theorem kp_serve (S : ab_S) (b : Int32) (p : Nat) (f : Int32) : ab_kp S (ab_serve S b p f).1 := by
  unfold ab_serve
  split
  · exact ⟨rfl, rfl, rfl, rfl⟩
  · split <;> exact ⟨rfl, rfl, rfl, rfl⟩
theorem kp_sv : ∀ (n : Nat) (S : ab_S), ab_kp S (ab_sv n S).1
  | 0, S => ⟨rfl, rfl, rfl, rfl⟩
  | n + 1, S => by
    unfold ab_sv
    split
    next => exact ⟨rfl, rfl, rfl, rfl⟩
    next k hk => exact kp_tr (kp_serve (S.1, S.2.1.eraseIdx k, va_up S.2.2.1 (S.2.1.getD k (0, 0, 0)).2.1 (ab_inc (S.2.2.1 (S.2.1.getD k (0, 0, 0)).2.1) 3), S.2.2.2.1, S.2.2.2.2) _ _ _) (kp_sv n _)
theorem kp_tick (S : ab_S) (n : Nat) (dm : Option (Int32 × Nat)) : ab_kp S (ab_tick S n dm).1 := by
  cases dm with
  | none => exact kp_tr (S := S) (T := ab_tk S) ⟨rfl, rfl, rfl, rfl⟩ (kp_sv n _)
  | some d => exact kp_tr (S := S) (T := ab_tk S) ⟨rfl, rfl, rfl, rfl⟩ (kp_tr (kp_serve _ _ _ _) (kp_sv _ _))
theorem ws_ask (S : ab_S) (p : Nat) (g : Nat → Int32) : ∀ n, (ab_ws S p g n).2.2 = S.2.2
  | 0 => rfl
  | n + 1 => (w1_ask _ _ _).trans (ws_ask S p g n)
theorem wf_ask : ∀ (n : Nat) (S : ab_S) (p : Nat) (a : Int32), (ab_wf n S p a).2.2 = S.2.2
  | 0, S, p, a => rfl
  | n + 1, S, p, a => by
    unfold ab_wf
    split
    · rfl
    · exact (wf_ask n _ p _).trans (w1_ask _ _ _)
theorem wish_ask (S : ab_S) (p : Nat) (b : Int32) (sd : Bool) : (ab_wish S p b sd).2.2 = S.2.2 := by
  unfold ab_wish
  split
  · exact ws_ask _ _ _ _
  · split
    · split
      · exact ws_ask _ _ _ _
      · rfl
    · split
      · exact wf_ask _ _ _ _
      · split
        · split
          · exact ws_ask _ _ _ _
          · rfl
        · rfl
theorem kp_wish (S : ab_S) (p : Nat) (b : Int32) (sd : Bool) : ab_kp S (ab_wish S p b sd) := by
  have h := wish_ask S p b sd
  exact ⟨by rw [h], by rw [h], by rw [h], by rw [h]⟩
def ab_ln (S : ab_S) (p : Nat) (b : Int32) : ab_S := (S.1, S.2.1, va_up S.2.2.1 p (ab_learn (S.2.2.1 p) b), S.2.2.2)
def ab_sd (A : ab_A) (b : Int32) : Bool := !decide (A.1 7 = -1) && (!decide (b - A.1 7 = 0) && decide (b - A.1 7 = A.1 8))
/-- the end of an ask: learnt, wished, the pace's tick -/
def ab_end (S : ab_S) (n pc p : Nat) (b : Int32) : ab_S := if S.2.2.2.2.length % pc = 0 then (ab_tick (ab_wish (ab_ln S p b) p b (ab_sd (S.2.2.1 p) b)) n none).1 else ab_wish (ab_ln S p b) p b (ab_sd (S.2.2.1 p) b)
def ab_a0 (S : ab_S) (p : Nat) (b : Int32) : ab_S := (S.1, S.2.1, va_up S.2.2.1 p (ab_inc (S.2.2.1 p) 0), S.2.2.2.1, S.2.2.2.2 ++ [b])
def ab_a1 (S : ab_S) (n p : Nat) (b : Int32) : ab_S := if ab_fi S.1 b < S.1.length then ab_hit S p (ab_fi S.1 b) else (ab_tick (ab_dem S p b) n (some (b, p))).1
def ab_ans (S : ab_S) (n pc p : Nat) (b : Int32) : ab_S := ab_end (ab_a1 (ab_a0 S p b) n p b) n pc p b
theorem aok_learn {A : ab_A} (h : ab_aok A) {b : Int32} (hb : 0 ≤ b ∧ b ≤ 63) : ab_aok (ab_learn A b) := by
  obtain ⟨h1, h2, h3, h4, h5, h6⟩ := h
  unfold ab_learn
  have hn : ¬ b = -1 := fun e => by rw [e] at hb; exact absurd hb.1 (by decide)
  split
  next hc => exact ⟨Or.inr hb, h2, h3, h4, h5, fun e => absurd e hn⟩
  next hc =>
    refine ⟨Or.inr hb, fun j hj => ?_, h3, h4, h5, fun e => absurd e hn⟩
    show upd A.2.2 _ b j = -1 ∨ _
    by_cases hj2 : j = (A.1 7).toNatClampNeg
    · rw [hj2, pk_us]
      exact Or.inr (by rw [show (upd (upd A.1 8 (b - A.1 7)) 7 b, A.2.1, upd A.2.2 (A.1 7).toNatClampNeg b).2.2 = upd A.2.2 (A.1 7).toNatClampNeg b from rfl, pk_us]; exact hb)
    · rw [pk_un hj2]
      have := h2 j hj
      show _ ∨ (0 ≤ upd A.2.2 _ b j ∧ upd A.2.2 _ b j ≤ 63)
      rw [pk_un hj2]
      exact this
theorem I_ln {S : ab_S} (h : ab_I S) {p : Nat} (hp : p < 4) {b : Int32} (hb : 0 ≤ b ∧ b ≤ 63) : ab_I (ab_ln S p b) := by
  obtain ⟨h1, h2, h3, h4, h5, h6, h7, h8, h9⟩ := h
  exact ⟨h1, h2, h3, h4, h5, aok_up h6 (aok_learn (h6 _ hp) hb), h7, h8, h9⟩
theorem I_a0 {S : ab_S} (h : ab_I S) (hl : S.2.2.2.2.length < 1000000) {p : Nat} (hp : p < 4) (b : Int32) : ab_I (ab_a0 S p b) := by
  obtain ⟨h1, h2, h3, h4, h5, h6, h7, h8, h9⟩ := h
  refine ⟨h1, h2, h3, h4, h5, aok_up h6 (aok_inc (h6 _ hp) 0), h7, h8, ?_⟩
  show (S.2.2.2.2 ++ [b]).length ≤ 1000000
  rw [List.length_append, List.length_singleton]
  omega
theorem I_a1 {S : ab_S} (h : ab_I S) {n p : Nat} (hp : p < 4) {b : Int32} (hb : 0 ≤ b ∧ b ≤ 63) : ab_I (ab_a1 S n p b) := by
  unfold ab_a1
  split
  next hc => exact I_hit h hp hc
  next hc => exact I_tick (I_dem h hp b) (fun d hd => by cases hd; exact ⟨hp, hb.1, hb.2, Or.inl rfl⟩)
theorem I_end {S : ab_S} (h : ab_I S) {n pc p : Nat} (hp : p < 4) {b : Int32} (hb : 0 ≤ b ∧ b ≤ 63) : ab_I (ab_end S n pc p b) := by
  unfold ab_end
  split
  · exact I_tick (I_wish (I_ln h hp hb) hp b _) (fun d hd => by cases hd)
  · exact I_wish (I_ln h hp hb) hp b _
theorem I_ans {S : ab_S} (h : ab_I S) (hl : S.2.2.2.2.length < 1000000) {n pc p : Nat} (hp : p < 4) {b : Int32} (hb : 0 ≤ b ∧ b ≤ 63) : ab_I (ab_ans S n pc p b) := I_end (I_a1 (I_a0 h hl hp b) hp hb) hp hb
theorem kp_a1 (S : ab_S) (n p : Nat) (b : Int32) : ab_kp S (ab_a1 S n p b) := by
  unfold ab_a1
  split
  · exact ⟨rfl, rfl, rfl, rfl⟩
  · exact kp_tr (S := S) (T := ab_dem S p b) ⟨rfl, rfl, rfl, rfl⟩ (kp_tick _ _ _)

set_option maxRecDepth 4000 in
theorem ans_tail {L : pm_L} {hb : Nat} (hk : hs_ok L hb) {w : pm_W} {S : ab_S} (hR : hs_R w hb S) (hI : ab_I S) {p : Nat} (hp : p < 4) {b : Int32} (hb3 : 0 ≤ b ∧ b ≤ 63) {n pc : Nat} (hn : S.2.2.2.1 5 = nI n) (hn3 : n ≤ 3) (hpc : S.2.2.2.1 6 = nI pc) (hpc1 : 1 ≤ pc) (hpc4 : pc ≤ 4) (x3 : Int32) {w0 : pm_W} (hf0 : fr_out w0 w hb (hb + 25)) : pm_R L MX3_answer 74 [some (.ref hb), some (.int (nI p)), some (.int b), some (.int x3)] [] w (pm_qi fun r w1 => r = (if x3 = -1 then 1 else 0) ∧ hs_R w1 hb (ab_end S n pc p b) ∧ fr_out w0 w1 hb (hb + 25)) := by
  obtain ⟨e1, e2, e3, e4, e5, e6, e7, hdr, hdl, hap⟩ := id hk
  obtain ⟨r1, r2, r3, r4, r5, r6, r7, r8, r9⟩ := id hdr
  obtain ⟨l1, l2, l3, l4, l5, l6, l7, l8, l9⟩ := id hdl
  obtain ⟨g1, g2, g3, g4, g5, g6⟩ := id hR
  obtain ⟨⟨sp, i1, i2, i3, i4⟩, i5, i6, i7, i8, i9, i10, i11, i12⟩ := id hI
  obtain ⟨ha0, ⟨a1, a2, a3, a4, a5⟩⟩ := hap p hp
  refine pm_aload_n dX3_answer_74 rfl ?_
  refine pm_getR (ci := 3) (j := 2) (n := 11) (by first | assumption | rfl) (by decide) (by decide) rfl fl_RX3_25 rfl (by first | assumption | rfl) dX3_answer_75 ?_
  refine pm_iload_n dX3_answer_78 rfl ?_
  refine pm_kaldN (by first | assumption | rfl) (by first | assumption | omega | decide) (by first | decide | omega) (by first | assumption | rfl) dX3_answer_79 ?_
  refine pm_iload_n dX3_answer_80 rfl ?_
  refine pm_cVv (as := [.int _]) (by first | assumption | rfl) (by decide) rfl ml_RX3_99 (by decide) (Nat.le_of_ble_eq_true rfl) dX3_answer_81 (c_X0_learn (hap p hp).2 (g3 p hp) (i9 p hp).1 b) (fun w1 hq => ?_)
  obtain ⟨q1, q2, q3, q4⟩ := hq
  have hR1 : hs_R w1 hb (ab_ln S p b) := hs_ask hR hp q1 q4
  have hI1 := I_ln hI hp hb3
  have hsd : (!decide (((ab_ln S p b).2.2.1 p).1 8 = 0) && decide (((ab_ln S p b).2.2.1 p).1 8 = w1.1 (hb + 13 + 3 * p) 9)) = ab_sd (S.2.2.1 p) b := by
    show (!decide ((va_up S.2.2.1 p (ab_learn (S.2.2.1 p) b) p).1 8 = 0) && decide ((va_up S.2.2.1 p (ab_learn (S.2.2.1 p) b) p).1 8 = w1.1 (hb + 13 + 3 * p) 9)) = _
    rw [va_up_self]
    unfold ab_sd ab_learn
    by_cases h7 : (S.2.2.1 p).1 7 = -1
    · have h8 : (upd (S.2.2.1 p).1 7 b) 8 = 0 := (i9 p hp).2.2.2.2.2 h7
      simp [h7, h8]
    · rw [if_neg h7, q3 h7]
      simp [h7, upd]
  refine pm_aload_n dX3_answer_84 rfl ?_
  refine pm_iload_n dX3_answer_85 rfl ?_
  refine pm_iload_n dX3_answer_86 rfl ?_
  refine pm_cVv (as := [.int _, .int _]) (by first | assumption | rfl) (by decide) rfl ml_RX3_102 (by decide) (Nat.le_of_ble_eq_true rfl) dX3_answer_87 (c_X3_wish hk hR1 hI1 hp hb3 hsd) (fun w2 hq => ?_)
  obtain ⟨hR2, hf2⟩ := hq
  have hI2 := I_wish (sd := ab_sd (S.2.2.1 p) b) hI1 hp b
  have hk2 := kp_wish (ab_ln S p b) p b (ab_sd (S.2.2.1 p) b)
  have hf3 : fr_out w0 w2 hb (hb + 25) := fr_tr hf0 (fr_tr (fr_wd q4 (by omega) (by omega)) hf2)
  refine pm_aload_n dX3_answer_90 rfl ?_
  refine pm_getI (ci := 3) (j := 10) (n := 11) (by first | assumption | rfl) (by decide) (by decide) rfl fl_RX3_62 rfl dX3_answer_91 ?_
  rw [show w2.1 hb 10 = nI S.2.2.2.2.length from hR2.2.2.2.2.1.trans (by rw [hk2.1]; rfl)]
  refine pm_aload_n dX3_answer_94 rfl ?_
  refine pm_getI (ci := 3) (j := 6) (n := 11) (by first | assumption | rfl) (by decide) (by decide) rfl fl_RX3_50 rfl dX3_answer_95 ?_
  rw [show w2.1 hb 6 = nI pc from (hR2.2.2.2.1 6 (by decide) (by decide)).trans (hk2.2.2.2.trans hpc)]
  refine pm_irem dX3_answer_98 (by exact nI_ne0 (by omega) (by omega)) ?_
  rw [pk_rem (by omega) (by omega) (by omega)]
  refine pm_if_ne (tgt := 109) dX3_answer_99 (by decide) (fun c99 => ?_) (fun c99 => ?_)
  · refine pm_iload_n dX3_answer_109 rfl ?_
    refine pm_iconst (x := -1) dX3_answer_110 rfl ?_
    refine pm_icmp_ne (tgt := 118) dX3_answer_111 (by decide) (fun c111 => ?_) (fun c111 => ?_)
    · refine pm_iconst (x := 0) dX3_answer_118 rfl ?_
      refine pm_iret dX3_answer_119 rfl ?_
      have hnz : ¬ S.2.2.2.2.length % pc = 0 := fun e => c99 (by rw [e]; rfl)
      refine ⟨?_, ?_, hf3⟩
      · rw [if_neg c111]
      · rw [ab_end, if_neg hnz]
        exact hR2
    · refine pm_iconst (x := 1) dX3_answer_114 rfl ?_
      refine pm_goto (tgt := 119) dX3_answer_115 (by decide) ?_
      refine pm_iret dX3_answer_119 rfl ?_
      have hnz : ¬ S.2.2.2.2.length % pc = 0 := fun e => c99 (by rw [e]; rfl)
      refine ⟨?_, ?_, hf3⟩
      · rw [if_pos c111]
      · rw [ab_end, if_neg hnz]
        exact hR2
  · have hz : S.2.2.2.2.length % pc = 0 := (nI_eq (a := S.2.2.2.2.length % pc) (b := 0) (by have := Nat.mod_lt S.2.2.2.2.length (show 0 < pc by omega); omega) (by decide)).mp c99
    refine pm_aload_n dX3_answer_102 rfl ?_
    refine pm_iconst (x := -1) dX3_answer_103 rfl ?_
    refine pm_iconst (x := -1) dX3_answer_104 rfl ?_
    refine pm_cVi (as := [.int _, .int _]) (by first | assumption | rfl) (by decide) rfl ml_RX3_92 (by decide) (Nat.le_of_ble_eq_true rfl) dX3_answer_105 (c_X3_tick0 hk hR2 hI2 (n := n) (hk2.2.2.1.trans hn) hn3) (fun x5 w5 hq => ?_)
    obtain ⟨-, hR5, hf5⟩ := hq
    refine pm_pop dX3_answer_108 rfl ?_
    refine pm_iload_n dX3_answer_109 rfl ?_
    refine pm_iconst (x := -1) dX3_answer_110 rfl ?_
    refine pm_icmp_ne (tgt := 118) dX3_answer_111 (by decide) (fun c111 => ?_) (fun c111 => ?_)
    · refine pm_iconst (x := 0) dX3_answer_118 rfl ?_
      refine pm_iret dX3_answer_119 rfl ?_
      refine ⟨?_, ?_, fr_tr hf3 hf5⟩
      · rw [if_neg c111]
      · rw [ab_end, if_pos hz]
        exact hR5
    · refine pm_iconst (x := 1) dX3_answer_114 rfl ?_
      refine pm_goto (tgt := 119) dX3_answer_115 (by decide) ?_
      refine pm_iret dX3_answer_119 rfl ?_
      refine ⟨?_, ?_, fr_tr hf3 hf5⟩
      · rw [if_pos c111]
      · rw [ab_end, if_pos hz]
        exact hR5

set_option maxRecDepth 4000 in
theorem c_X3_answer {L : pm_L} {hb : Nat} (hk : hs_ok L hb) {w : pm_W} {S : ab_S} (hR : hs_R w hb S) (hI : ab_I S) (hlen : S.2.2.2.2.length < 1000000) {p : Nat} (hp : p < 4) {b : Int32} (hb3 : 0 ≤ b ∧ b ≤ 63) {n pc : Nat} (hn : S.2.2.2.1 5 = nI n) (hn1 : 1 ≤ n) (hn3 : n ≤ 3) (hpc : S.2.2.2.1 6 = nI pc) (hpc1 : 1 ≤ pc) (hpc4 : pc ≤ 4) : pm_C L MX3_answer [.ref hb, .int (nI p), .int b] w (pm_qi fun r w1 => r = (if ab_fi S.1 b < S.1.length then 0 else 1) ∧ hs_R w1 hb (ab_ans S n pc p b) ∧ fr_out w w1 hb (hb + 25)) := by
  obtain ⟨e1, e2, e3, e4, e5, e6, e7, hdr, hdl, hap⟩ := id hk
  obtain ⟨r1, r2, r3, r4, r5, r6, r7, r8, r9⟩ := id hdr
  obtain ⟨l1, l2, l3, l4, l5, l6, l7, l8, l9⟩ := id hdl
  obtain ⟨g1, g2, g3, g4, g5, g6⟩ := id hR
  obtain ⟨⟨sp, i1, i2, i3, i4⟩, i5, i6, i7, i8, i9, i10, i11, i12⟩ := id hI
  obtain ⟨ha0, ⟨a1, a2, a3, a4, a5⟩⟩ := hap p hp
  refine pm_start (lv := [some (.ref _), some (.int _), some (.int _), none]) (plainFor_of_name pf3) (Nat.le_of_ble_eq_true rfl) rfl ?_
  refine pm_aload_n dX3_answer_0 rfl ?_
  refine pm_dup dX3_answer_1 rfl ?_
  refine pm_getI (ci := 3) (j := 10) (n := 11) (by first | assumption | rfl) (by decide) (by decide) rfl fl_RX3_62 rfl dX3_answer_2 ?_
  rw [g5]
  refine pm_iconst (x := 1) dX3_answer_5 rfl ?_
  refine pm_iadd dX3_answer_6 ?_
  rw [nI_1]
  refine pm_putI (ci := 3) (j := 10) (n := 11) (by first | assumption | rfl) (by decide) (by decide) rfl fl_RX3_62 rfl rfl dX3_answer_7 ?_
  refine pm_aload_n dX3_answer_10 rfl ?_
  refine pm_getR (ci := 3) (j := 3) (n := 11) (by first | assumption | rfl) (by decide) (by decide) rfl fl_RX3_29 rfl (by first | assumption | rfl) dX3_answer_11 ?_
  refine pm_aload_n dX3_answer_14 rfl ?_
  refine pm_getI (ci := 3) (j := 10) (n := 11) (by first | assumption | rfl) (by decide) (by decide) rfl fl_RX3_62 rfl dX3_answer_15 ?_
  refine pm_topi (nI (S.2.2.2.2.length + 1)) (by rw [pm_s_at]; exact pk_us) ?_
  refine pm_cSi (as := [.int _]) ml_RX3_78 (by decide) (Nat.le_of_ble_eq_true rfl) dX3_answer_18 (c_X3_placeInRow L _ (by omega)) (fun x1 w1 hq => ?_)
  obtain ⟨rfl, hw9⟩ := hq
  have hw9 := hw9.symm
  subst hw9
  refine pm_iload_n dX3_answer_21 rfl ?_
  refine pm_iastN (by first | assumption | rfl) (by first | assumption | omega | exact Nat.mod_lt _ (by decide) | decide) (by first | decide | omega) dX3_answer_22 ?_
  have hRr := hs_row hR b
  have hfr : fr_out w (pm_s (pm_s w hb (upd (w.1 hb) 10 (nI (S.2.2.2.2.length + 1)))) (hb + 12) (upd ((pm_s w hb (upd (w.1 hb) 10 (nI (S.2.2.2.2.length + 1)))).1 (hb + 12)) ((S.2.2.2.2.length + 1) % 24) b)) hb (hb + 25) := fr_st (fr_s (by omega) (by omega)) (by omega) (by omega)
  generalize pm_s (pm_s w hb (upd (w.1 hb) 10 (nI (S.2.2.2.2.length + 1)))) (hb + 12) (upd ((pm_s w hb (upd (w.1 hb) 10 (nI (S.2.2.2.2.length + 1)))).1 (hb + 12)) ((S.2.2.2.2.length + 1) % 24) b) = wr at hRr hfr ⊢
  refine pm_aload_n dX3_answer_23 rfl ?_
  refine pm_getR (ci := 3) (j := 2) (n := 11) (by first | assumption | rfl) (by decide) (by decide) rfl fl_RX3_25 rfl (by first | assumption | rfl) dX3_answer_24 ?_
  refine pm_iload_n dX3_answer_27 rfl ?_
  refine pm_kaldN (by first | assumption | rfl) (by first | assumption | omega | exact Nat.mod_lt _ (by decide) | decide) (by first | decide | omega) (by first | assumption | rfl) dX3_answer_28 ?_
  refine pm_getR (ci := 0) (j := 0) (n := 10) (by first | assumption | rfl) (by decide) (by decide) rfl fl_RX3_82 rfl (by first | assumption | rfl) dX3_answer_29 ?_
  refine pm_iconst (x := nI 0) dX3_answer_32 rfl ?_
  refine pm_dup2 dX3_answer_33 rfl rfl ?_
  refine pm_ialdN (by first | assumption | rfl) (by first | assumption | omega | exact Nat.mod_lt _ (by decide) | decide) (by first | decide | omega) dX3_answer_34 ?_
  refine pm_iconst (x := 1) dX3_answer_35 rfl ?_
  refine pm_iadd dX3_answer_36 ?_
  refine pm_iastN (by first | assumption | rfl) (by first | assumption | omega | exact Nat.mod_lt _ (by decide) | decide) (by first | decide | omega) dX3_answer_37 ?_
  have hR0 : hs_R (pm_s wr (hb + 13 + 3 * p + 1) (upd (wr.1 (hb + 13 + 3 * p + 1)) 0 (wr.1 (hb + 13 + 3 * p + 1) 0 + 1))) hb (ab_a0 S p b) := hs_ask hRr hp (as_inc (hRr.2.2.1 p hp) 0) (fr_s (by omega) (by omega))
  have hf0 : fr_out w (pm_s wr (hb + 13 + 3 * p + 1) (upd (wr.1 (hb + 13 + 3 * p + 1)) 0 (wr.1 (hb + 13 + 3 * p + 1) 0 + 1))) hb (hb + 25) := fr_st hfr (by omega) (by omega)
  generalize pm_s wr (hb + 13 + 3 * p + 1) (upd (wr.1 (hb + 13 + 3 * p + 1)) 0 (wr.1 (hb + 13 + 3 * p + 1) 0 + 1)) = w0 at hR0 hf0 ⊢
  have hI0 := I_a0 hI hlen hp b
  have hI1 := I_a1 (n := n) hI0 hp hb3
  have hk1 := kp_a1 (ab_a0 S p b) n p b
  refine pm_aload_n dX3_answer_38 rfl ?_
  refine pm_getR (ci := 3) (j := 0) (n := 11) (by first | assumption | rfl) (by decide) (by decide) rfl fl_RX3_14 rfl (by first | assumption | rfl) dX3_answer_39 ?_
  refine pm_iload_n dX3_answer_42 rfl ?_
  refine pm_cVi (as := [.int _]) (by first | assumption | rfl) (by decide) rfl ml_RX3_85 (by decide) (Nat.le_of_ble_eq_true rfl) dX3_answer_43 (c_X2_find hdr (by decide) (l := S.1) hR0.1 (by omega) b) (fun x1 w1 hq => ?_)
  obtain ⟨rfl, hw9⟩ := hq
  have hw9 := hw9.symm
  subst hw9
  refine pm_istore_n (lv' := [some (.ref _), some (.int _), some (.int _), some (.int _)]) dX3_answer_46 (by decide) rfl ?_
  refine pm_iload_n dX3_answer_47 rfl ?_
  refine pm_iconst (x := -1) dX3_answer_48 rfl ?_
  refine pm_icmp_ne (tgt := 68) dX3_answer_49 (by decide) (fun c49 => ?_) (fun c49 => ?_)
  · have hfi : ab_fi S.1 b < S.1.length := by
      have q1 := fi_le S.1 b
      rw [enc_m1 q1 (by omega)] at c49
      omega
    have henc : ab_enc (ab_fi S.1 b) S.1.length = nI (ab_fi S.1 b) := if_pos hfi
    rw [henc] at c49
    rw [henc]
    refine pm_aload_n dX3_answer_68 rfl ?_
    refine pm_iload_n dX3_answer_69 rfl ?_
    refine pm_iload_n dX3_answer_70 rfl ?_
    refine pm_cVv (as := [.int _, .int _]) (by first | assumption | rfl) (by decide) rfl ml_RX3_96 (by decide) (Nat.le_of_ble_eq_true rfl) dX3_answer_71 (c_X3_hit hk hR0 hI0 hp (show ab_fi S.1 b < (ab_a0 S p b).1.length from hfi)) (fun w5 hq => ?_)
    obtain ⟨hR5, hf5⟩ := hq
    have hR6 : hs_R w5 hb (ab_a1 (ab_a0 S p b) n p b) := by
      rw [ab_a1, if_pos (show ab_fi (ab_a0 S p b).1 b < (ab_a0 S p b).1.length from hfi)]
      exact hR5
    have h9 := ans_tail hk hR6 hI1 hp hb3 (hk1.2.2.1.trans hn) hn3 (hk1.2.2.2.trans hpc) hpc1 hpc4 (nI (ab_fi S.1 b)) (fr_tr hf0 hf5)
    rw [if_neg c49] at h9
    rw [if_pos hfi]
    exact h9
  · have hfi : ¬ ab_fi S.1 b < S.1.length := by
      rw [enc_m1 (fi_le _ _) (by omega)] at c49
      omega
    refine pm_aload_n dX3_answer_52 rfl ?_
    refine pm_iload_n dX3_answer_53 rfl ?_
    refine pm_iload_n dX3_answer_54 rfl ?_
    refine pm_cVv (as := [.int _, .int _]) (by first | assumption | rfl) (by decide) rfl ml_RX3_88 (by decide) (Nat.le_of_ble_eq_true rfl) dX3_answer_55 (c_X3_demand hk hR0 hI0 hp b) (fun w2 hq => ?_)
    obtain ⟨hR2, hf2⟩ := hq
    refine pm_aload_n dX3_answer_58 rfl ?_
    refine pm_iload_n dX3_answer_59 rfl ?_
    refine pm_iload_n dX3_answer_60 rfl ?_
    refine pm_cVi (as := [.int _, .int _]) (by first | assumption | rfl) (by decide) rfl ml_RX3_92 (by decide) (Nat.le_of_ble_eq_true rfl) dX3_answer_61 (c_X3_tickD hk hR2 (I_dem hI0 hp b) (n := n) hn hn1 hn3 ⟨hp, hb3.1, hb3.2, Or.inl rfl⟩) (fun x5 w5 hq => ?_)
    obtain ⟨-, hR5, hf5⟩ := hq
    refine pm_pop dX3_answer_64 rfl ?_
    refine pm_goto (tgt := 74) dX3_answer_65 (by decide) ?_
    have hR6 : hs_R w5 hb (ab_a1 (ab_a0 S p b) n p b) := by
      rw [ab_a1, if_neg (show ¬ ab_fi (ab_a0 S p b).1 b < (ab_a0 S p b).1.length from hfi)]
      exact hR5
    have h9 := ans_tail hk hR6 hI1 hp hb3 (hk1.2.2.1.trans hn) hn3 (hk1.2.2.2.trans hpc) hpc1 hpc4 (ab_enc (ab_fi S.1 b) S.1.length) (fr_tr hf0 (fr_tr hf2 hf5))
    rw [if_pos c49] at h9
    rw [if_neg hfi]
    exact h9
end
section
def ab_beg (sp sd pc : Int32) : ab_S := ([], [], fun _ => ab_new, fun j => if j = 4 then sp else if j = 5 then sd else if j = 6 then pc else 0, [])

set_option maxRecDepth 4000 in
theorem c_X3_begin {L : pm_L} {hb : Nat} (hk : hs_ok L hb) (w : pm_W) (sp sd pc : Int32) : pm_C L MX3_begin [.ref hb, .int sp, .int sd, .int pc] w (pm_qv fun w1 => hs_R w1 hb (ab_beg sp sd pc) ∧ fr_out w w1 hb (hb + 25)) := by
  obtain ⟨e1, e2, e3, e4, e5, e6, e7, hdr, hdl, hap⟩ := id hk
  obtain ⟨r1, r2, r3, r4, r5, r6, r7, r8, r9⟩ := id hdr
  obtain ⟨l1, l2, l3, l4, l5, l6, l7, l8, l9⟩ := id hdl
  have loop : ∀ i, i ≤ 4 → ∀ w1, (hd_R w1 (hb + 1) [] ∧ hd_R w1 (hb + 6) [] ∧ (∀ q, q < i → as_R w1 (hb + 13 + 3 * q) ab_new) ∧ fr_out w w1 hb (hb + 25)) → pm_R L MX3_begin 17 [some (.ref hb), some (.int sp), some (.int sd), some (.int pc), some (.int (nI i))] [] w1 (pm_qv fun w1 => hs_R w1 hb (ab_beg sp sd pc) ∧ fr_out w w1 hb (hb + 25)) := by
    refine up_loop 4 (fun i hi ih w1 hw => ?_)
    obtain ⟨h1, h2, h3, hf⟩ := hw
    refine pm_iload dX3_begin_17 rfl ?_
    refine pm_iconst (x := nI 4) dX3_begin_19 rfl ?_
    refine pm_icmp_ge (tgt := 39) dX3_begin_20 (by decide) (fun c20 => ?_) (fun c20 => ?_)
    · refine pm_aload_n dX3_begin_39 rfl ?_
      refine pm_iload_n dX3_begin_40 rfl ?_
      refine pm_putI (ci := 3) (j := 4) (n := 11) (by first | assumption | rfl) (by decide) (by decide) rfl fl_RX3_43 rfl rfl dX3_begin_41 ?_
      refine pm_aload_n dX3_begin_44 rfl ?_
      refine pm_iload_n dX3_begin_45 rfl ?_
      refine pm_putI (ci := 3) (j := 5) (n := 11) (by first | assumption | rfl) (by decide) (by decide) rfl fl_RX3_47 rfl rfl dX3_begin_46 ?_
      refine pm_aload_n dX3_begin_49 rfl ?_
      refine pm_iload_n dX3_begin_50 rfl ?_
      refine pm_putI (ci := 3) (j := 6) (n := 11) (by first | assumption | rfl) (by decide) (by decide) rfl fl_RX3_50 rfl rfl dX3_begin_51 ?_
      refine pm_aload_n dX3_begin_54 rfl ?_
      refine pm_iconst (x := 0) dX3_begin_55 rfl ?_
      refine pm_putI (ci := 3) (j := 7) (n := 11) (by first | assumption | rfl) (by decide) (by decide) rfl fl_RX3_53 rfl rfl dX3_begin_56 ?_
      refine pm_aload_n dX3_begin_59 rfl ?_
      refine pm_iconst (x := 0) dX3_begin_60 rfl ?_
      refine pm_putI (ci := 3) (j := 8) (n := 11) (by first | assumption | rfl) (by decide) (by decide) rfl fl_RX3_56 rfl rfl dX3_begin_61 ?_
      refine pm_aload_n dX3_begin_64 rfl ?_
      refine pm_iconst (x := 0) dX3_begin_65 rfl ?_
      refine pm_putI (ci := 3) (j := 9) (n := 11) (by first | assumption | rfl) (by decide) (by decide) rfl fl_RX3_59 rfl rfl dX3_begin_66 ?_
      refine pm_aload_n dX3_begin_69 rfl ?_
      refine pm_iconst (x := 0) dX3_begin_70 rfl ?_
      refine pm_putI (ci := 3) (j := 10) (n := 11) (by first | assumption | rfl) (by decide) (by decide) rfl fl_RX3_62 rfl rfl dX3_begin_71 ?_
      refine pm_vret dX3_begin_74 rfl ?_
      rw [nI_leI (by omega) (by omega)] at c20
      have hi4 : i = 4 := by omega
      subst hi4
      refine ⟨⟨hd_R_cong h1 (fun a z1 z2 => by simp only [pm_s]; simp only [if_neg (show ¬ a = hb by omega)]), hd_R_cong h2 (fun a z1 z2 => by simp only [pm_s]; simp only [if_neg (show ¬ a = hb by omega)]), fun p hp => as_R_cong (h3 p hp) (fun a z1 z2 => by simp only [pm_s]; simp only [if_neg (show ¬ a = hb by omega)]), fun j q1 q2 => ?_, ?_, fun i x z => by simp [ab_beg] at z⟩, ?_⟩
      · rcases (show j = 4 ∨ j = 5 ∨ j = 6 ∨ j = 7 ∨ j = 8 ∨ j = 9 by omega) with rfl | rfl | rfl | rfl | rfl | rfl <;> simp [pm_s, upd, ab_beg]
      · simp [pm_s, upd, ab_beg, nI_0]
      · exact fr_st (fr_st (fr_st (fr_st (fr_st (fr_st (fr_st hf (by omega) (by omega)) (by omega) (by omega)) (by omega) (by omega)) (by omega) (by omega)) (by omega) (by omega)) (by omega) (by omega)) (by omega) (by omega)
    · have hlt : i < 4 := by
        rw [nI_leI (by omega) (by omega)] at c20
        omega
      obtain ⟨ha0, haok⟩ := hap i hlt
      obtain ⟨a1, a2, a3, a4, a5⟩ := id haok
      refine pm_aload_n dX3_begin_23 rfl ?_
      refine pm_getR (ci := 3) (j := 2) (n := 11) (by first | assumption | rfl) (by decide) (by decide) rfl fl_RX3_25 rfl (by first | assumption | rfl) dX3_begin_24 ?_
      refine pm_iload dX3_begin_27 rfl ?_
      refine pm_kaldN (by first | assumption | rfl) (by first | assumption | omega | decide) (by first | decide | omega) (by first | assumption | rfl) dX3_begin_29 ?_
      refine pm_cVv (as := []) (by first | assumption | rfl) (by decide) rfl ml_RX3_41 (by decide) (Nat.le_of_ble_eq_true rfl) dX3_begin_30 (c_X0_begin haok _) (fun w2 hq => ?_)
      obtain ⟨q1, q2⟩ := hq
      refine pm_iinc (y := _ + 1) (lv' := [some (.ref _), some (.int _), some (.int _), some (.int _), some (.int _)]) dX3_begin_33 rfl rfl (by decide) rfl ?_
      refine pm_goto (tgt := 17) dX3_begin_36 (by decide) ?_
      rw [nI_1]
      refine ih hlt _ ⟨hd_R_cong h1 (fun a z1 z2 => q2.1 a (by omega)), hd_R_cong h2 (fun a z1 z2 => q2.1 a (by omega)), fun q hq => ?_, fr_tr hf (fr_wd q2 (by omega) (by omega))⟩
      by_cases hqi : q = i
      · subst hqi; exact q1
      · exact as_R_cong (h3 q (by omega)) (fun a z1 z2 => q2.1 a (by omega))
  refine pm_start (lv := [some (.ref _), some (.int _), some (.int _), some (.int _), none]) (plainFor_of_name pf3) (Nat.le_of_ble_eq_true rfl) rfl ?_
  refine pm_aload_n dX3_begin_0 rfl ?_
  refine pm_getR (ci := 3) (j := 0) (n := 11) (by first | assumption | rfl) (by decide) (by decide) rfl fl_RX3_14 rfl (by first | assumption | rfl) dX3_begin_1 ?_
  refine pm_cVv (as := []) (by first | assumption | rfl) (by decide) rfl ml_RX3_38 (by decide) (Nat.le_of_ble_eq_true rfl) dX3_begin_4 (c_X2_empty hdr _) (fun w1 hq => ?_)
  obtain ⟨q1, q2⟩ := hq
  refine pm_aload_n dX3_begin_7 rfl ?_
  refine pm_getR (ci := 3) (j := 1) (n := 11) (by first | assumption | rfl) (by decide) (by decide) rfl fl_RX3_20 rfl (by first | assumption | rfl) dX3_begin_8 ?_
  refine pm_cVv (as := []) (by first | assumption | rfl) (by decide) rfl ml_RX3_38 (by decide) (Nat.le_of_ble_eq_true rfl) dX3_begin_11 (c_X2_empty hdl _) (fun w2 hq => ?_)
  obtain ⟨q3, q4⟩ := hq
  refine pm_iconst (x := 0) dX3_begin_14 rfl ?_
  refine pm_istore (lv' := [some (.ref _), some (.int _), some (.int _), some (.int _), some (.int _)]) dX3_begin_15 (by decide) rfl ?_
  exact loop 0 (Nat.zero_le _) w2 ⟨hd_R_cong q1 (fun a z1 z2 => q4.1 a (by omega)), q3, fun q hq => absurd hq (by omega), fr_tr (fr_wd q2 (by omega) (by omega)) (fr_wd q4 (by omega) (by omega))⟩

set_option maxRecDepth 4000 in
theorem c_X3_copyFrom {L : pm_L} {hb hb2 : Nat} (hk : hs_ok L hb) (hk2 : hs_ok L hb2) (hd : hb + 25 ≤ hb2 ∨ hb2 + 25 ≤ hb) {w : pm_W} {S : ab_S} (hR : hs_R w hb2 S) (hl1 : S.1.length ≤ 12) (hl2 : S.2.1.length ≤ 16) : pm_C L MX3_copyFrom [.ref hb, .ref hb2] w (pm_qv fun w1 => hs_R w1 hb S ∧ fr_out w w1 hb (hb + 25)) := by
  obtain ⟨e1, e2, e3, e4, e5, e6, e7, hdr, hdl, hap⟩ := id hk
  obtain ⟨r1, r2, r3, r4, r5, r6, r7, r8, r9⟩ := id hdr
  obtain ⟨l1, l2, l3, l4, l5, l6, l7, l8, l9⟩ := id hdl
  obtain ⟨E1, E2, E3, E4, E5, E6, E7, Hdr, Hdl, Hap⟩ := id hk2
  obtain ⟨G1, G2, G3, G4, G5, G6⟩ := id hR
  have loop : ∀ i, i ≤ 4 → ∀ w1, (hd_R w1 (hb + 1) S.1 ∧ hd_R w1 (hb + 6) S.2.1 ∧ (∀ q, q < i → as_R w1 (hb + 13 + 3 * q) (S.2.2.1 q)) ∧ fr_out w w1 hb (hb + 25)) → pm_R L MX3_copyFrom 24 [some (.ref hb), some (.ref hb2), some (.int (nI i))] [] w1 (pm_qv fun w1 => hs_R w1 hb S ∧ fr_out w w1 hb (hb + 25)) := by
    refine up_loop 4 (fun i hi ih w1 hw => ?_)
    obtain ⟨h1, h2, h3, hf⟩ := hw
    refine pm_iload_n dX3_copyFrom_24 rfl ?_
    refine pm_iconst (x := nI 4) dX3_copyFrom_25 rfl ?_
    refine pm_icmp_ge (tgt := 50) dX3_copyFrom_26 (by decide) (fun c26 => ?_) (fun c26 => ?_)
    · refine pm_aload_n dX3_copyFrom_50 rfl ?_
      refine pm_getR (ci := 3) (j := 3) (n := 11) (by first | assumption | rfl) (by decide) (by decide) rfl fl_RX3_29 rfl (by first | assumption | rfl) dX3_copyFrom_51 ?_
      refine pm_iconst (x := 0) dX3_copyFrom_54 rfl ?_
      refine pm_aload_n dX3_copyFrom_55 rfl ?_
      refine pm_getR (ci := 3) (j := 3) (n := 11) (by first | assumption | rfl) (by decide) (by decide) rfl fl_RX3_29 rfl (by first | assumption | rfl) dX3_copyFrom_56 ?_
      refine pm_iconst (x := 0) dX3_copyFrom_59 rfl ?_
      refine pm_bipush (x := 24) dX3_copyFrom_60 rfl ?_
      refine pm_copy ml_RX3_72 ml_copy (by first | assumption | rfl) (by first | assumption | rfl) (by decide) (by decide) (by decide) (by decide) (by decide) (by decide) (by decide) dX3_copyFrom_62 ?_
      have z0 : (0 : Int32).toNatClampNeg = 0 := by decide
      have z24 : (24 : Int32).toNatClampNeg = 24 := by decide
      rw [z0, z24, hf.1 (hb2 + 12) (by omega)]
      have hf2 : fr_out w (pm_s w1 (hb + 12) (va_cpy (w.1 (hb2 + 12)) (w1.1 (hb + 12)) 0 0 24)) hb (hb + 25) := fr_st hf (by omega) (by omega)
      have k2 : ∀ a, a ≠ hb + 12 → (pm_s w1 (hb + 12) (va_cpy (w.1 (hb2 + 12)) (w1.1 (hb + 12)) 0 0 24)).1 a = w1.1 a := fun a h => pm_s_ne h
      have k3 : ∀ j, j < 24 → (pm_s w1 (hb + 12) (va_cpy (w.1 (hb2 + 12)) (w1.1 (hb + 12)) 0 0 24)).1 (hb + 12) j = w.1 (hb2 + 12) j := fun j hj => by rw [pm_s_at]; exact cpy_at hj
      generalize pm_s w1 (hb + 12) (va_cpy (w.1 (hb2 + 12)) (w1.1 (hb + 12)) 0 0 24) = w2 at hf2 k2 k3 ⊢
      refine pm_aload_n dX3_copyFrom_65 rfl ?_
      refine pm_aload_n dX3_copyFrom_66 rfl ?_
      refine pm_getI (ci := 3) (j := 4) (n := 11) (by first | assumption | rfl) (by decide) (by decide) rfl fl_RX3_43 rfl dX3_copyFrom_67 ?_
      refine pm_putI (ci := 3) (j := 4) (n := 11) (by first | assumption | rfl) (by decide) (by decide) rfl fl_RX3_43 rfl rfl dX3_copyFrom_70 ?_
      refine pm_aload_n dX3_copyFrom_73 rfl ?_
      refine pm_aload_n dX3_copyFrom_74 rfl ?_
      refine pm_getI (ci := 3) (j := 5) (n := 11) (by first | assumption | rfl) (by decide) (by decide) rfl fl_RX3_47 rfl dX3_copyFrom_75 ?_
      refine pm_putI (ci := 3) (j := 5) (n := 11) (by first | assumption | rfl) (by decide) (by decide) rfl fl_RX3_47 rfl rfl dX3_copyFrom_78 ?_
      refine pm_aload_n dX3_copyFrom_81 rfl ?_
      refine pm_aload_n dX3_copyFrom_82 rfl ?_
      refine pm_getI (ci := 3) (j := 6) (n := 11) (by first | assumption | rfl) (by decide) (by decide) rfl fl_RX3_50 rfl dX3_copyFrom_83 ?_
      refine pm_putI (ci := 3) (j := 6) (n := 11) (by first | assumption | rfl) (by decide) (by decide) rfl fl_RX3_50 rfl rfl dX3_copyFrom_86 ?_
      refine pm_aload_n dX3_copyFrom_89 rfl ?_
      refine pm_aload_n dX3_copyFrom_90 rfl ?_
      refine pm_getI (ci := 3) (j := 7) (n := 11) (by first | assumption | rfl) (by decide) (by decide) rfl fl_RX3_53 rfl dX3_copyFrom_91 ?_
      refine pm_putI (ci := 3) (j := 7) (n := 11) (by first | assumption | rfl) (by decide) (by decide) rfl fl_RX3_53 rfl rfl dX3_copyFrom_94 ?_
      refine pm_aload_n dX3_copyFrom_97 rfl ?_
      refine pm_aload_n dX3_copyFrom_98 rfl ?_
      refine pm_getI (ci := 3) (j := 8) (n := 11) (by first | assumption | rfl) (by decide) (by decide) rfl fl_RX3_56 rfl dX3_copyFrom_99 ?_
      refine pm_putI (ci := 3) (j := 8) (n := 11) (by first | assumption | rfl) (by decide) (by decide) rfl fl_RX3_56 rfl rfl dX3_copyFrom_102 ?_
      refine pm_aload_n dX3_copyFrom_105 rfl ?_
      refine pm_aload_n dX3_copyFrom_106 rfl ?_
      refine pm_getI (ci := 3) (j := 9) (n := 11) (by first | assumption | rfl) (by decide) (by decide) rfl fl_RX3_59 rfl dX3_copyFrom_107 ?_
      refine pm_putI (ci := 3) (j := 9) (n := 11) (by first | assumption | rfl) (by decide) (by decide) rfl fl_RX3_59 rfl rfl dX3_copyFrom_110 ?_
      refine pm_aload_n dX3_copyFrom_113 rfl ?_
      refine pm_aload_n dX3_copyFrom_114 rfl ?_
      refine pm_getI (ci := 3) (j := 10) (n := 11) (by first | assumption | rfl) (by decide) (by decide) rfl fl_RX3_62 rfl dX3_copyFrom_115 ?_
      refine pm_putI (ci := 3) (j := 10) (n := 11) (by first | assumption | rfl) (by decide) (by decide) rfl fl_RX3_62 rfl rfl dX3_copyFrom_118 ?_
      refine pm_vret dX3_copyFrom_121 rfl ?_
      rw [nI_leI (by omega) (by omega)] at c26
      have hi4 : i = 4 := by omega
      subst hi4
      have n1 : hb2 ≠ hb := by omega
      have e2 : w2.1 hb2 = w.1 hb2 := hf2.1 hb2 (by omega)
      refine ⟨⟨hd_R_cong h1 (fun a z1 z2 => ?_), hd_R_cong h2 (fun a z1 z2 => ?_), fun p hp => as_R_cong (h3 p hp) (fun a z1 z2 => ?_), fun j q1 q2 => ?_, ?_, fun i x z1 z2 => ?_⟩, ?_⟩
      · have z3 : ¬ a = hb := by omega
        simp only [pm_s, if_neg z3]
        exact k2 a (by omega)
      · have z3 : ¬ a = hb := by omega
        simp only [pm_s, if_neg z3]
        exact k2 a (by omega)
      · have z3 : ¬ a = hb := by omega
        simp only [pm_s, if_neg z3]
        exact k2 a (by omega)
      · rcases (show j = 4 ∨ j = 5 ∨ j = 6 ∨ j = 7 ∨ j = 8 ∨ j = 9 by omega) with rfl | rfl | rfl | rfl | rfl | rfl <;> (simp [pm_s, upd, n1, e2]; exact G4 _ (by decide) (by decide))
      · simp [pm_s, upd, n1, e2]; exact G5
      · have z3 : ¬ hb + 12 = hb := by omega
        simp only [pm_s, if_neg z3]
        rw [k3 _ (Nat.mod_lt _ (by decide))]
        exact G6 i x z1 z2
      · repeat (first | exact hf2 | refine fr_st ?_ (by omega) (by omega))
    · have hlt : i < 4 := by
        rw [nI_leI (by omega) (by omega)] at c26
        omega
      obtain ⟨ha0, haok⟩ := hap i hlt
      obtain ⟨Ha0, Haok⟩ := Hap i hlt
      obtain ⟨a1, a2, a3, a4, a5⟩ := id haok
      refine pm_aload_n dX3_copyFrom_29 rfl ?_
      refine pm_getR (ci := 3) (j := 2) (n := 11) (by first | assumption | rfl) (by decide) (by decide) rfl fl_RX3_25 rfl (by first | assumption | rfl) dX3_copyFrom_30 ?_
      refine pm_iload_n dX3_copyFrom_33 rfl ?_
      refine pm_kaldN (by first | assumption | rfl) (by first | assumption | omega | decide) (by first | decide | omega) (by first | assumption | rfl) dX3_copyFrom_34 ?_
      refine pm_aload_n dX3_copyFrom_35 rfl ?_
      refine pm_getR (ci := 3) (j := 2) (n := 11) (by first | assumption | rfl) (by decide) (by decide) rfl fl_RX3_25 rfl (by first | assumption | rfl) dX3_copyFrom_36 ?_
      refine pm_iload_n dX3_copyFrom_39 rfl ?_
      refine pm_kaldN (by first | assumption | rfl) (by first | assumption | omega | decide) (by first | decide | omega) (by first | assumption | rfl) dX3_copyFrom_40 ?_
      refine pm_cVv (as := [.ref _]) (by first | assumption | rfl) (by decide) rfl ml_RX3_69 (by decide) (Nat.le_of_ble_eq_true rfl) dX3_copyFrom_41 (c_X0_copyFrom haok Haok (by omega) (as_R_cong (G3 i hlt) (fun a z1 z2 => hf.1 a (by omega)))) (fun w2 hq => ?_)
      obtain ⟨q1, -, q2⟩ := hq
      refine pm_iinc (y := _ + 1) (lv' := [some (.ref _), some (.ref _), some (.int _)]) dX3_copyFrom_44 rfl rfl (by decide) rfl ?_
      refine pm_goto (tgt := 24) dX3_copyFrom_47 (by decide) ?_
      rw [nI_1]
      refine ih hlt _ ⟨hd_R_cong h1 (fun a z1 z2 => q2.1 a (by omega)), hd_R_cong h2 (fun a z1 z2 => q2.1 a (by omega)), fun q hq => ?_, fr_tr hf (fr_wd q2 (by omega) (by omega))⟩
      by_cases hqi : q = i
      · subst hqi; exact q1
      · exact as_R_cong (h3 q (by omega)) (fun a z1 z2 => q2.1 a (by omega))
  refine pm_start (lv := [some (.ref _), some (.ref _), none]) (plainFor_of_name pf3) (Nat.le_of_ble_eq_true rfl) rfl ?_
  refine pm_aload_n dX3_copyFrom_0 rfl ?_
  refine pm_getR (ci := 3) (j := 0) (n := 11) (by first | assumption | rfl) (by decide) (by decide) rfl fl_RX3_14 rfl (by first | assumption | rfl) dX3_copyFrom_1 ?_
  refine pm_aload_n dX3_copyFrom_4 rfl ?_
  refine pm_getR (ci := 3) (j := 0) (n := 11) (by first | assumption | rfl) (by decide) (by decide) rfl fl_RX3_14 rfl (by first | assumption | rfl) dX3_copyFrom_5 ?_
  refine pm_cVv (as := [.ref _]) (by first | assumption | rfl) (by decide) rfl ml_RX3_65 (by decide) (Nat.le_of_ble_eq_true rfl) dX3_copyFrom_8 (c_X2_copyFrom hdr Hdr (by omega) (by decide) G1 hl1) (fun w1 hq => ?_)
  obtain ⟨q1, q2⟩ := hq
  refine pm_aload_n dX3_copyFrom_11 rfl ?_
  refine pm_getR (ci := 3) (j := 1) (n := 11) (by first | assumption | rfl) (by decide) (by decide) rfl fl_RX3_20 rfl (by first | assumption | rfl) dX3_copyFrom_12 ?_
  refine pm_aload_n dX3_copyFrom_15 rfl ?_
  refine pm_getR (ci := 3) (j := 1) (n := 11) (by first | assumption | rfl) (by decide) (by decide) rfl fl_RX3_20 rfl (by first | assumption | rfl) dX3_copyFrom_16 ?_
  refine pm_cVv (as := [.ref _]) (by first | assumption | rfl) (by decide) rfl ml_RX3_65 (by decide) (Nat.le_of_ble_eq_true rfl) dX3_copyFrom_19 (c_X2_copyFrom hdl Hdl (by omega) (by decide) (hd_R_cong G2 (fun a z1 z2 => q2.1 a (by omega))) hl2) (fun w2 hq => ?_)
  obtain ⟨q3, q4⟩ := hq
  refine pm_iconst (x := 0) dX3_copyFrom_22 rfl ?_
  refine pm_istore_n (lv' := [some (.ref _), some (.ref _), some (.int _)]) dX3_copyFrom_23 (by decide) rfl ?_
  exact loop 0 (Nat.zero_le _) w2 ⟨hd_R_cong q1 (fun a z1 z2 => q4.1 a (by omega)), q3, fun q hq => absurd hq (by omega), fr_tr (fr_wd q2 (by omega) (by omega)) (fr_wd q4 (by omega) (by omega))⟩

set_option maxRecDepth 4000 in
theorem c_X3_asked {L : pm_L} {hb : Nat} (hk : hs_ok L hb) {w : pm_W} {S : ab_S} (hR : hs_R w hb S) {i : Nat} {x : Int32} (hi : S.2.2.2.2[i]? = some x) (h24 : S.2.2.2.2.length ≤ i + 24) (hlen : S.2.2.2.2.length ≤ 1000000) : pm_C L MX3_asked [.ref hb, .int (nI (i + 1))] w (pm_qi fun r w1 => r = x ∧ w1 = w) := by
  obtain ⟨e1, e2, e3, e4, e5, e6, e7, hdr, hdl, hap⟩ := id hk
  obtain ⟨r1, r2, r3, r4, r5, r6, r7, r8, r9⟩ := id hdr
  obtain ⟨l1, l2, l3, l4, l5, l6, l7, l8, l9⟩ := id hdl
  obtain ⟨g1, g2, g3, g4, g5, g6⟩ := id hR
  have hil := (List.getElem?_eq_some_iff.mp hi).1
  refine pm_start (lv := [some (.ref _), some (.int _)]) (plainFor_of_name pf3) (Nat.le_of_ble_eq_true rfl) rfl ?_
  refine pm_aload_n dX3_asked_0 rfl ?_
  refine pm_getR (ci := 3) (j := 3) (n := 11) (by first | assumption | rfl) (by decide) (by decide) rfl fl_RX3_29 rfl (by first | assumption | rfl) dX3_asked_1 ?_
  refine pm_iload_n dX3_asked_4 rfl ?_
  refine pm_cSi (as := [.int _]) ml_RX3_78 (by decide) (Nat.le_of_ble_eq_true rfl) dX3_asked_5 (c_X3_placeInRow L _ (by omega)) (fun x1 w1 hq => ?_)
  obtain ⟨rfl, hw9⟩ := hq
  have hw9 := hw9.symm
  subst hw9
  refine pm_ialdN (by first | assumption | rfl) (by exact Nat.mod_lt _ (by decide)) (by first | decide | omega) dX3_asked_8 ?_
  refine pm_iret dX3_asked_9 rfl ?_
  exact ⟨g6 i x hi h24, rfl⟩
end
section
def L0_lay : List (Nat × Nat) := [(4, 4), (3, 11), (2, 5), (10, 4), (10, 12), (10, 12), (10, 12), (2, 5), (10, 4), (10, 16), (10, 16), (10, 16), (14, 4), (10, 24), (0, 10), (10, 7), (10, 64), (0, 10), (10, 7), (10, 64), (0, 10), (10, 7), (10, 64), (0, 10), (10, 7), (10, 64), (13, 2), (11, 2), (1, 9), (10, 7), (10, 24), (12, 25), (12, 25), (3, 11), (2, 5), (10, 4), (10, 12), (10, 12), (10, 12), (2, 5), (10, 4), (10, 16), (10, 16), (10, 16), (14, 4), (10, 24), (0, 10), (10, 7), (10, 64), (0, 10), (10, 7), (10, 64), (0, 10), (10, 7), (10, 64), (0, 10), (10, 7), (10, 64), (3, 11), (2, 5), (10, 4), (10, 12), (10, 12), (10, 12), (2, 5), (10, 4), (10, 16), (10, 16), (10, 16), (14, 4), (10, 24), (0, 10), (10, 7), (10, 64), (0, 10), (10, 7), (10, 64), (0, 10), (10, 7), (10, 64), (0, 10), (10, 7), (10, 64), (5, 39), (10, 12), (10, 12), (11, 12), (10, 16), (10, 16), (10, 4), (10, 4), (10, 4), (10, 4), (10, 4), (10, 4), (10, 4), (10, 4), (10, 256), (10, 28), (10, 200), (10, 7), (11, 16384), (11, 16384), (11, 128), (11, 128), (10, 128), (10, 128), (10, 2), (10, 1200)]
def L0_rf : List (Nat → Option Nat) := [(fun j => match j with | 0 => some 1 | 1 => some 26 | 2 => some 27 | 3 => some 28 | _ => none), (fun j => match j with | 0 => some 2 | 1 => some 7 | 2 => some 12 | 3 => some 13 | _ => none), (fun j => match j with | 0 => some 4 | 1 => some 5 | 2 => some 6 | 3 => some 3 | _ => none), (fun _ => none), (fun _ => none), (fun _ => none), (fun _ => none), (fun j => match j with | 0 => some 9 | 1 => some 10 | 2 => some 11 | 3 => some 8 | _ => none), (fun _ => none), (fun _ => none), (fun _ => none), (fun _ => none), (fun j => some (14 + 3 * j)), (fun _ => none), (fun j => match j with | 0 => some 15 | 1 => some 16 | _ => none), (fun _ => none), (fun _ => none), (fun j => match j with | 0 => some 18 | 1 => some 19 | _ => none), (fun _ => none), (fun _ => none), (fun j => match j with | 0 => some 21 | 1 => some 22 | _ => none), (fun _ => none), (fun _ => none), (fun j => match j with | 0 => some 24 | 1 => some 25 | _ => none), (fun _ => none), (fun _ => none), (fun j => some (33 + 25 * j)), (fun _ => none), (fun j => match j with | 0 => some 29 | 1 => some 30 | 2 => some 31 | 3 => some 32 | _ => none), (fun _ => none), (fun _ => none), (fun _ => none), (fun _ => none), (fun j => match j with | 0 => some 34 | 1 => some 39 | 2 => some 44 | 3 => some 45 | _ => none), (fun j => match j with | 0 => some 36 | 1 => some 37 | 2 => some 38 | 3 => some 35 | _ => none), (fun _ => none), (fun _ => none), (fun _ => none), (fun _ => none), (fun j => match j with | 0 => some 41 | 1 => some 42 | 2 => some 43 | 3 => some 40 | _ => none), (fun _ => none), (fun _ => none), (fun _ => none), (fun _ => none), (fun j => some (46 + 3 * j)), (fun _ => none), (fun j => match j with | 0 => some 47 | 1 => some 48 | _ => none), (fun _ => none), (fun _ => none), (fun j => match j with | 0 => some 50 | 1 => some 51 | _ => none), (fun _ => none), (fun _ => none), (fun j => match j with | 0 => some 53 | 1 => some 54 | _ => none), (fun _ => none), (fun _ => none), (fun j => match j with | 0 => some 56 | 1 => some 57 | _ => none), (fun _ => none), (fun _ => none), (fun j => match j with | 0 => some 59 | 1 => some 64 | 2 => some 69 | 3 => some 70 | _ => none), (fun j => match j with | 0 => some 61 | 1 => some 62 | 2 => some 63 | 3 => some 60 | _ => none), (fun _ => none), (fun _ => none), (fun _ => none), (fun _ => none), (fun j => match j with | 0 => some 66 | 1 => some 67 | 2 => some 68 | 3 => some 65 | _ => none), (fun _ => none), (fun _ => none), (fun _ => none), (fun _ => none), (fun j => some (71 + 3 * j)), (fun _ => none), (fun j => match j with | 0 => some 72 | 1 => some 73 | _ => none), (fun _ => none), (fun _ => none), (fun j => match j with | 0 => some 75 | 1 => some 76 | _ => none), (fun _ => none), (fun _ => none), (fun j => match j with | 0 => some 78 | 1 => some 79 | _ => none), (fun _ => none), (fun _ => none), (fun j => match j with | 0 => some 81 | 1 => some 82 | _ => none), (fun _ => none), (fun _ => none), (fun j => match j with | 3 => some 84 | 4 => some 85 | 5 => some 86 | 7 => some 87 | 8 => some 88 | 13 => some 89 | 14 => some 90 | 15 => some 91 | 16 => some 92 | 17 => some 93 | 18 => some 94 | 19 => some 95 | 20 => some 96 | 21 => some 97 | 22 => some 98 | 23 => some 99 | 28 => some 100 | 30 => some 101 | 31 => some 102 | 32 => some 103 | 33 => some 104 | 34 => some 105 | 35 => some 106 | 36 => some 107 | 37 => some 108 | _ => none), (fun _ => none), (fun _ => none), (fun _ => none), (fun _ => none), (fun _ => none), (fun _ => none), (fun _ => none), (fun _ => none), (fun _ => none), (fun _ => none), (fun _ => none), (fun _ => none), (fun _ => none), (fun _ => none), (fun _ => none), (fun _ => none), (fun _ => none), (fun _ => none), (fun _ => none), (fun _ => none), (fun _ => none), (fun _ => none), (fun _ => none), (fun _ => none), (fun _ => none)]
def pm_L0 : pm_L := (fun k => L0_lay.getD k (99, 0), fun k => L0_rf.getD k (fun _ => none))
theorem L0_in : ∀ k, ¬ (pm_L0.1 k).1 = 99 → k < 120 := by
  intro k h
  rcases Nat.lt_or_ge k 109 with q | q
  · omega
  · exfalso
    apply h
    show (L0_lay.getD k (99, 0)).1 = 99
    rw [List.getD_eq_getElem?_getD, List.getElem?_eq_none (by exact q)]
    rfl
theorem L0_hd {k n : Nat} (h : pm_L0.1 k = (2, 5) ∧ pm_L0.2 k 0 = some (k + 2) ∧ pm_L0.2 k 1 = some (k + 3) ∧ pm_L0.2 k 2 = some (k + 4) ∧ pm_L0.2 k 3 = some (k + 1) ∧ pm_L0.1 (k + 1) = (10, 4) ∧ pm_L0.1 (k + 2) = (10, n) ∧ pm_L0.1 (k + 3) = (10, n) ∧ pm_L0.1 (k + 4) = (10, n)) : hd_ok pm_L0 k n := h
theorem L0_as (a : Nat) (h : pm_L0.1 a = (0, 10) ∧ pm_L0.2 a 0 = some (a + 1) ∧ pm_L0.2 a 1 = some (a + 2) ∧ pm_L0.1 (a + 1) = (10, 7) ∧ pm_L0.1 (a + 2) = (10, 64)) : as_ok pm_L0 a := h

theorem L0_hs1 : hs_ok pm_L0 1 := by
  refine ⟨rfl, rfl, rfl, rfl, rfl, rfl, rfl, ⟨rfl, rfl, rfl, rfl, rfl, rfl, rfl, rfl, rfl⟩, ⟨rfl, rfl, rfl, rfl, rfl, rfl, rfl, rfl, rfl⟩, fun p hp => ?_⟩
  rcases (show p = 0 ∨ p = 1 ∨ p = 2 ∨ p = 3 by omega) with rfl | rfl | rfl | rfl <;> exact ⟨rfl, rfl, rfl, rfl, rfl, rfl⟩
theorem L0_hs33 : hs_ok pm_L0 33 := by
  refine ⟨rfl, rfl, rfl, rfl, rfl, rfl, rfl, ⟨rfl, rfl, rfl, rfl, rfl, rfl, rfl, rfl, rfl⟩, ⟨rfl, rfl, rfl, rfl, rfl, rfl, rfl, rfl, rfl⟩, fun p hp => ?_⟩
  rcases (show p = 0 ∨ p = 1 ∨ p = 2 ∨ p = 3 by omega) with rfl | rfl | rfl | rfl <;> exact ⟨rfl, rfl, rfl, rfl, rfl, rfl⟩
theorem L0_hs58 : hs_ok pm_L0 58 := by
  refine ⟨rfl, rfl, rfl, rfl, rfl, rfl, rfl, ⟨rfl, rfl, rfl, rfl, rfl, rfl, rfl, rfl, rfl⟩, ⟨rfl, rfl, rfl, rfl, rfl, rfl, rfl, rfl, rfl⟩, fun p hp => ?_⟩
  rcases (show p = 0 ∨ p = 1 ∨ p = 2 ∨ p = 3 by omega) with rfl | rfl | rfl | rfl <;> exact ⟨rfl, rfl, rfl, rfl, rfl, rfl⟩
theorem L0_ask {p : Nat} (hp : p < 4) : pm_L0.2 12 p = some (14 + 3 * p) ∧ as_ok pm_L0 (14 + 3 * p) := by
  rcases (show p = 0 ∨ p = 1 ∨ p = 2 ∨ p = 3 by omega) with rfl | rfl | rfl | rfl <;> exact ⟨rfl, rfl, rfl, rfl, rfl, rfl⟩
theorem as_of {x : Int32} (h : pm_bw x 0 3 = true) : ∃ q, q < 4 ∧ x = nI q := by
  have h := pm_bw_t.mp h
  obtain ⟨j, hj, e⟩ := nI_of2 (n := 3) (M := 3) (by decide) (Int32.not_lt.mpr h.1) h.2
  exact ⟨j, by omega, e⟩
theorem bw_of {x hi : Int32} {n : Nat} (hn : hi.toInt = n) (h : pm_bw x 0 hi = true) : ∃ q, q ≤ n ∧ x = nI q := by
  have h := pm_bw_t.mp h
  obtain ⟨j, hj, e⟩ := nI_of2 (n := n) (M := hi) hn (Int32.not_lt.mpr h.1) h.2
  exact ⟨j, by omega, e⟩
theorem bw_nI {q n : Nat} (h : q ≤ n) (hn : n < 2 ^ 31) : pm_bw (nI q) 0 (nI n) = true := pm_bw_t.mpr ⟨nI_pos' (by omega), nI_le h hn⟩
def ab_sm (f : Nat → Int32) : Nat → Int32
  | 0 => 0
  | n + 1 => ab_sm f n + f n
/-- what is told of one asker -/
def ab_t1 (S : ab_S) (p j : Nat) : Int32 := if j = 7 then nI (ab_cnt S.1 p) else if j = 8 then (S.2.2.1 p).1 4 else if j = 9 then nI (ab_cnt S.2.1 p) else (S.2.2.1 p).2.1 j

set_option maxRecDepth 4000 in
theorem c_X4_toldOfOne {w : pm_W} {S : ab_S} (hR : hs_R w 1 S) {p j : Nat} (hp : p < 4) (hj : j < 10) : pm_C pm_L0 MX4_toldOfOne [.ref 0, .int (nI p), .int (nI j)] w (pm_qi fun r w1 => r = ab_t1 S p j ∧ w1 = w) := by
  obtain ⟨g1, g2, g3, g4, g5, g6⟩ := id hR
  obtain ⟨ha0, hao⟩ := L0_ask hp
  obtain ⟨a1, a2, a3, a4, a5⟩ := id hao
  have hga : as_R w (14 + 3 * p) (S.2.2.1 p) := g3 p hp
  refine pm_start (lv := [some (.ref _), some (.int _), some (.int _)]) (plainFor_of_name pf4) (Nat.le_of_ble_eq_true rfl) rfl ?_
  refine pm_iload_n dX4_toldOfOne_0 rfl ?_
  rcases (show j < 7 ∨ j = 7 ∨ j = 8 ∨ j = 9 by omega) with h7 | rfl | rfl | rfl
  · refine pm_tableOut (tgt := 67) dX4_toldOfOne_1 (Or.inl (by rw [nI_toInt (by omega)]; omega)) (by decide) ?_
    refine pm_aload_n dX4_toldOfOne_67 rfl ?_
    refine pm_getR (ci := 4) (j := 0) (n := 4) (by first | assumption | rfl) (by decide) (by decide) rfl fl_RX4_10 rfl (by first | assumption | rfl) dX4_toldOfOne_68 ?_
    refine pm_getR (ci := 3) (j := 2) (n := 11) (by first | assumption | rfl) (by decide) (by decide) rfl fl_RX4_47 rfl (by first | assumption | rfl) dX4_toldOfOne_71 ?_
    refine pm_iload_n dX4_toldOfOne_74 rfl ?_
    refine pm_kaldN (by first | assumption | rfl) (by first | assumption | omega | decide) (by first | decide | omega) (by first | assumption | rfl) dX4_toldOfOne_75 ?_
    refine pm_getR (ci := 0) (j := 0) (n := 10) (by first | assumption | rfl) (by decide) (by decide) rfl fl_RX4_162 rfl (by first | assumption | rfl) dX4_toldOfOne_76 ?_
    refine pm_iload_n dX4_toldOfOne_79 rfl ?_
    refine pm_ialdN (by first | assumption | rfl) (by first | assumption | omega | decide) (by first | decide | omega) dX4_toldOfOne_80 ?_
    refine pm_iret dX4_toldOfOne_81 rfl ?_
    refine ⟨?_, rfl⟩
    rw [ab_t1, if_neg (by omega), if_neg (by omega), if_neg (by omega)]
    exact hga.2.1 j h7
  · refine pm_tableIn (off := 27) (tgt := 28) dX4_toldOfOne_1 (by decide) (by decide) (by decide) (by decide) ?_
    refine pm_aload_n dX4_toldOfOne_28 rfl ?_
    refine pm_getR (ci := 4) (j := 0) (n := 4) (by first | assumption | rfl) (by decide) (by decide) rfl fl_RX4_10 rfl (by first | assumption | rfl) dX4_toldOfOne_29 ?_
    refine pm_getR (ci := 3) (j := 0) (n := 11) (by first | assumption | rfl) (by decide) (by decide) rfl fl_RX4_92 rfl (by first | assumption | rfl) dX4_toldOfOne_32 ?_
    refine pm_getR (ci := 2) (j := 3) (n := 5) (by first | assumption | rfl) (by decide) (by decide) rfl fl_RX4_165 rfl (by first | assumption | rfl) dX4_toldOfOne_35 ?_
    refine pm_iload_n dX4_toldOfOne_38 rfl ?_
    refine pm_ialdN (by first | assumption | rfl) (by first | assumption | omega | decide) (by first | decide | omega) dX4_toldOfOne_39 ?_
    refine pm_iret dX4_toldOfOne_40 rfl ?_
    exact ⟨g1.2.2 p hp, rfl⟩
  · refine pm_tableIn (off := 40) (tgt := 41) dX4_toldOfOne_1 (by decide) (by decide) (by decide) (by decide) ?_
    refine pm_aload_n dX4_toldOfOne_41 rfl ?_
    refine pm_getR (ci := 4) (j := 0) (n := 4) (by first | assumption | rfl) (by decide) (by decide) rfl fl_RX4_10 rfl (by first | assumption | rfl) dX4_toldOfOne_42 ?_
    refine pm_getR (ci := 3) (j := 2) (n := 11) (by first | assumption | rfl) (by decide) (by decide) rfl fl_RX4_47 rfl (by first | assumption | rfl) dX4_toldOfOne_45 ?_
    refine pm_iload_n dX4_toldOfOne_48 rfl ?_
    refine pm_kaldN (by first | assumption | rfl) (by first | assumption | omega | decide) (by first | decide | omega) (by first | assumption | rfl) dX4_toldOfOne_49 ?_
    refine pm_getI (ci := 0) (j := 4) (n := 10) (by first | assumption | rfl) (by decide) (by decide) rfl fl_RX4_51 rfl dX4_toldOfOne_50 ?_
    refine pm_iret dX4_toldOfOne_53 rfl ?_
    exact ⟨hga.1 4 (by decide) (by decide), rfl⟩
  · refine pm_tableIn (off := 53) (tgt := 54) dX4_toldOfOne_1 (by decide) (by decide) (by decide) (by decide) ?_
    refine pm_aload_n dX4_toldOfOne_54 rfl ?_
    refine pm_getR (ci := 4) (j := 0) (n := 4) (by first | assumption | rfl) (by decide) (by decide) rfl fl_RX4_10 rfl (by first | assumption | rfl) dX4_toldOfOne_55 ?_
    refine pm_getR (ci := 3) (j := 1) (n := 11) (by first | assumption | rfl) (by decide) (by decide) rfl fl_RX4_114 rfl (by first | assumption | rfl) dX4_toldOfOne_58 ?_
    refine pm_getR (ci := 2) (j := 3) (n := 5) (by first | assumption | rfl) (by decide) (by decide) rfl fl_RX4_165 rfl (by first | assumption | rfl) dX4_toldOfOne_61 ?_
    refine pm_iload_n dX4_toldOfOne_64 rfl ?_
    refine pm_ialdN (by first | assumption | rfl) (by first | assumption | omega | decide) (by first | decide | omega) dX4_toldOfOne_65 ?_
    refine pm_iret dX4_toldOfOne_66 rfl ?_
    exact ⟨g2.2.2 p hp, rfl⟩

theorem c_X4_toldOfAll {w : pm_W} {S : ab_S} (hR : hs_R w 1 S) {j : Nat} (hj : j < 10) : pm_C pm_L0 MX4_toldOfAll [.ref 0, .int (nI j)] w (pm_qi fun r w1 => r = ab_sm (fun p => ab_t1 S p j) 4 ∧ w1 = w) := by
  have loop : ∀ i, i ≤ 4 → pm_R pm_L0 MX4_toldOfAll 4 [some (.ref 0), some (.int (nI j)), some (.int (ab_sm (fun p => ab_t1 S p j) i)), some (.int (nI i))] [] w (pm_qi fun r w1 => r = ab_sm (fun p => ab_t1 S p j) 4 ∧ w1 = w) := by
    refine up_loop 4 (fun i hi ih => ?_)
    refine pm_iload_n dX4_toldOfAll_4 rfl ?_
    refine pm_iconst (x := nI 4) dX4_toldOfAll_5 rfl ?_
    refine pm_icmp_ge (tgt := 24) dX4_toldOfAll_6 (by decide) (fun c6 => ?_) (fun c6 => ?_)
    · refine pm_iload_n dX4_toldOfAll_24 rfl ?_
      refine pm_iret dX4_toldOfAll_25 rfl ?_
      rw [nI_leI (by omega) (by omega)] at c6
      have : i = 4 := by omega
      subst this
      exact ⟨rfl, rfl⟩
    · have hlt : i < 4 := by
        rw [nI_leI (by omega) (by omega)] at c6
        omega
      refine pm_iload_n dX4_toldOfAll_9 rfl ?_
      refine pm_aload_n dX4_toldOfAll_10 rfl ?_
      refine pm_iload_n dX4_toldOfAll_11 rfl ?_
      refine pm_iload_n dX4_toldOfAll_12 rfl ?_
      refine pm_cVi (as := [.int _, .int _]) (by first | assumption | rfl) (by decide) rfl ml_RX4_86 (by decide) (Nat.le_of_ble_eq_true rfl) dX4_toldOfAll_13 (c_X4_toldOfOne hR hlt hj) (fun x1 w1 hq => ?_)
      obtain ⟨rfl, hw9⟩ := hq
      have hw9 := hw9.symm
      subst hw9
      refine pm_iadd dX4_toldOfAll_16 ?_
      refine pm_istore_n (lv' := [some (.ref _), some (.int _), some (.int _), some (.int _)]) dX4_toldOfAll_17 (by decide) rfl ?_
      refine pm_iinc (y := _ + 1) (lv' := [some (.ref _), some (.int _), some (.int _), some (.int _)]) dX4_toldOfAll_18 rfl rfl (by decide) rfl ?_
      refine pm_goto (tgt := 4) dX4_toldOfAll_21 (by decide) ?_
      rw [nI_1]
      exact ih hlt
  refine pm_start (lv := [some (.ref _), some (.int _), none, none]) (plainFor_of_name pf4) (Nat.le_of_ble_eq_true rfl) rfl ?_
  refine pm_iconst (x := 0) dX4_toldOfAll_0 rfl ?_
  refine pm_istore_n (lv' := [some (.ref _), some (.int _), some (.int _), none]) dX4_toldOfAll_1 (by decide) rfl ?_
  refine pm_iconst (x := 0) dX4_toldOfAll_2 rfl ?_
  refine pm_istore_n (lv' := [some (.ref _), some (.int _), some (.int _), some (.int _)]) dX4_toldOfAll_3 (by decide) rfl ?_
  exact loop 0 (Nat.zero_le _)

def pu_told (S : ab_S) (p j : Int32) : Int32 := if p = -1 ∨ pm_bw p 0 3 = true then (if pm_bw j 0 9 = true then (if p = -1 then ab_sm (fun q => ab_t1 S q j.toNatClampNeg) 4 else ab_t1 S p.toNatClampNeg j.toNatClampNeg) else -102) else -101
def pu_reach (S : ab_S) (p : Int32) : Int32 := if pm_bw p 0 3 = true then (S.2.2.1 p.toNatClampNeg).1 3 else -101
def pu_follows (S : ab_S) (p b : Int32) : Int32 := if pm_bw p 0 3 = true then (if pm_bw b 0 63 = true then (S.2.2.1 p.toNatClampNeg).2.2 b.toNatClampNeg else -102) else -101
def pu_house (S : ab_S) (x : Int32) : Int32 := if x = 0 then S.2.2.2.1 7 else if x = 1 then S.2.2.2.1 9 else if x = 2 then S.2.2.2.1 4 else if x = 3 then S.2.2.2.1 5 else if x = 4 then nI S.1.length else if x = 5 then nI S.2.1.length else if x = 6 then S.2.2.2.1 8 else if x = 7 then S.2.2.2.1 6 else -102

theorem c_X4_told {w : pm_W} {S : ab_S} (hR : hs_R w 1 S) (p x : Int32) : pm_C pm_L0 MX4_told [.ref 0, .int p, .int x] w (pm_qi fun r w1 => r = pu_told S p x ∧ w1 = w) := by
  refine pm_start (lv := [some (.ref _), some (.int _), some (.int _)]) (plainFor_of_name pf4) (Nat.le_of_ble_eq_true rfl) rfl ?_
  by_cases c0 : p = -1
  ·
    refine pm_iload_n dX4_told_0 rfl ?_
    refine pm_iconst (x := -1) dX4_told_1 rfl ?_
    refine pm_icmp_eq (tgt := 15) dX4_told_2 (by decide) (fun c2 => ?_) (fun c2 => absurd c0 c2)
    refine pm_iload_n dX4_told_15 rfl ?_
    refine pm_iconst (x := 0) dX4_told_16 rfl ?_
    refine pm_bipush (x := 9) dX4_told_17 rfl ?_
    refine pm_cSi (as := [.int _, .int _, .int _]) ml_RX4_31 (by decide) (Nat.le_of_ble_eq_true rfl) dX4_told_19 (c_X4_within pm_L0 _ _ _ _) (fun x1 w1 hq => ?_)
    obtain ⟨rfl, hw9⟩ := hq
    have hw9 := hw9.symm
    subst hw9
    refine pm_if_ne (tgt := 28) dX4_told_22 (by decide) (fun c22 => ?_) (fun c22 => ?_)
    · rw [pm_z_1] at c22
      obtain ⟨j, hj, rfl⟩ := bw_of (n := 9) (by decide) c22
      refine pm_iload_n dX4_told_28 rfl ?_
      refine pm_iconst (x := -1) dX4_told_29 rfl ?_
      refine pm_icmp_ne (tgt := 41) dX4_told_30 (by decide) (fun c30 => absurd c30 (fun h => h c0)) (fun c30 => ?_)
      refine pm_aload_n dX4_told_33 rfl ?_
      refine pm_iload_n dX4_told_34 rfl ?_
      refine pm_cVi (as := [.int _]) (by first | assumption | rfl) (by decide) rfl ml_RX4_56 (by decide) (Nat.le_of_ble_eq_true rfl) dX4_told_35 (c_X4_toldOfAll hR (by omega)) (fun x1 w1 hq => ?_)
      obtain ⟨rfl, hw9⟩ := hq
      have hw9 := hw9.symm
      subst hw9
      refine pm_goto (tgt := 47) dX4_told_38 (by decide) ?_
      refine pm_iret dX4_told_47 rfl ?_
      refine ⟨?_, rfl⟩
      rw [pu_told, if_pos (Or.inl c0), if_pos c22, if_pos c0, nI_clamp (by omega)]
    · refine pm_bipush (x := -102) dX4_told_25 rfl ?_
      refine pm_iret dX4_told_27 rfl ?_
      rw [pm_z_0] at c22
      refine ⟨?_, rfl⟩
      rw [pu_told, if_pos (Or.inl c0), if_neg (by rw [c22]; decide)]
  ·
    refine pm_iload_n dX4_told_0 rfl ?_
    refine pm_iconst (x := -1) dX4_told_1 rfl ?_
    refine pm_icmp_eq (tgt := 15) dX4_told_2 (by decide) (fun c2 => absurd c2 c0) (fun c2 => ?_)
    refine pm_iload_n dX4_told_5 rfl ?_
    refine pm_cSi (as := [.int _]) ml_RX4_43 (by decide) (Nat.le_of_ble_eq_true rfl) dX4_told_6 (c_X4_isAsker pm_L0 _ _) (fun x1 w1 hq => ?_)
    obtain ⟨rfl, hw9⟩ := hq
    have hw9 := hw9.symm
    subst hw9
    refine pm_if_ne (tgt := 15) dX4_told_9 (by decide) (fun c9 => ?_) (fun c9 => ?_)
    · rw [pm_z_1] at c9
      obtain ⟨q, hq4, rfl⟩ := as_of c9
      refine pm_iload_n dX4_told_15 rfl ?_
      refine pm_iconst (x := 0) dX4_told_16 rfl ?_
      refine pm_bipush (x := 9) dX4_told_17 rfl ?_
      refine pm_cSi (as := [.int _, .int _, .int _]) ml_RX4_31 (by decide) (Nat.le_of_ble_eq_true rfl) dX4_told_19 (c_X4_within pm_L0 _ _ _ _) (fun x1 w1 hq => ?_)
      obtain ⟨rfl, hw9⟩ := hq
      have hw9 := hw9.symm
      subst hw9
      refine pm_if_ne (tgt := 28) dX4_told_22 (by decide) (fun c22 => ?_) (fun c22 => ?_)
      · rw [pm_z_1] at c22
        obtain ⟨j, hj, rfl⟩ := bw_of (n := 9) (by decide) c22
        refine pm_iload_n dX4_told_28 rfl ?_
        refine pm_iconst (x := -1) dX4_told_29 rfl ?_
        refine pm_icmp_ne (tgt := 41) dX4_told_30 (by decide) (fun c30 => ?_) (fun c30 => absurd c30 c0)
        refine pm_aload_n dX4_told_41 rfl ?_
        refine pm_iload_n dX4_told_42 rfl ?_
        refine pm_iload_n dX4_told_43 rfl ?_
        refine pm_cVi (as := [.int _, .int _]) (by first | assumption | rfl) (by decide) rfl ml_RX4_86 (by decide) (Nat.le_of_ble_eq_true rfl) dX4_told_44 (c_X4_toldOfOne hR hq4 (by omega)) (fun x1 w1 hq => ?_)
        obtain ⟨rfl, hw9⟩ := hq
        have hw9 := hw9.symm
        subst hw9
        refine pm_iret dX4_told_47 rfl ?_
        refine ⟨?_, rfl⟩
        rw [pu_told, if_pos (Or.inr c9), if_pos c22, if_neg c0, nI_clamp (by omega), nI_clamp (by omega)]
      · refine pm_bipush (x := -102) dX4_told_25 rfl ?_
        refine pm_iret dX4_told_27 rfl ?_
        rw [pm_z_0] at c22
        refine ⟨?_, rfl⟩
        rw [pu_told, if_pos (Or.inr c9), if_neg (by rw [c22]; decide)]
    · refine pm_bipush (x := -101) dX4_told_12 rfl ?_
      refine pm_iret dX4_told_14 rfl ?_
      rw [pm_z_0] at c9
      refine ⟨?_, rfl⟩
      rw [pu_told, if_neg (by rw [c9]; simp [c0])]

set_option maxRecDepth 4000 in
theorem c_X4_reach {w : pm_W} {S : ab_S} (hR : hs_R w 1 S) (p : Int32) : pm_C pm_L0 MX4_reach [.ref 0, .int p] w (pm_qi fun r w1 => r = pu_reach S p ∧ w1 = w) := by
  obtain ⟨g1, g2, g3, g4, g5, g6⟩ := id hR
  refine pm_start (lv := [some (.ref _), some (.int _)]) (plainFor_of_name pf4) (Nat.le_of_ble_eq_true rfl) rfl ?_
  refine pm_iload_n dX4_reach_0 rfl ?_
  refine pm_cSi (as := [.int _]) ml_RX4_43 (by decide) (Nat.le_of_ble_eq_true rfl) dX4_reach_1 (c_X4_isAsker pm_L0 _ _) (fun x1 w1 hq => ?_)
  obtain ⟨rfl, hw9⟩ := hq
  have hw9 := hw9.symm
  subst hw9
  refine pm_if_eq (tgt := 22) dX4_reach_4 (by decide) (fun c4 => ?_) (fun c4 => ?_)
  · refine pm_bipush (x := -101) dX4_reach_22 rfl ?_
    refine pm_iret dX4_reach_24 rfl ?_
    rw [pm_z_0] at c4
    exact ⟨by rw [pu_reach, if_neg (by rw [c4]; decide)], rfl⟩
  · rw [pm_z_1] at c4
    obtain ⟨q, hq4, rfl⟩ := as_of c4
    obtain ⟨ha0, hao⟩ := L0_ask hq4
    obtain ⟨a1, a2, a3, a4, a5⟩ := id hao
    have hga : as_R w (14 + 3 * q) (S.2.2.1 q) := g3 q hq4
    refine pm_aload_n dX4_reach_7 rfl ?_
    refine pm_getR (ci := 4) (j := 0) (n := 4) (by first | assumption | rfl) (by decide) (by decide) rfl fl_RX4_10 rfl (by first | assumption | rfl) dX4_reach_8 ?_
    refine pm_getR (ci := 3) (j := 2) (n := 11) (by first | assumption | rfl) (by decide) (by decide) rfl fl_RX4_47 rfl (by first | assumption | rfl) dX4_reach_11 ?_
    refine pm_iload_n dX4_reach_14 rfl ?_
    refine pm_kaldN (by first | assumption | rfl) (by first | assumption | omega | decide) (by first | decide | omega) (by first | assumption | rfl) dX4_reach_15 ?_
    refine pm_getI (ci := 0) (j := 3) (n := 10) (by first | assumption | rfl) (by decide) (by decide) rfl fl_RX4_89 rfl dX4_reach_16 ?_
    refine pm_goto (tgt := 24) dX4_reach_19 (by decide) ?_
    refine pm_iret dX4_reach_24 rfl ?_
    exact ⟨by rw [pu_reach, if_pos c4, nI_clamp (by omega)]; exact hga.1 3 (by decide) (by decide), rfl⟩

set_option maxRecDepth 4000 in
theorem c_X4_follows {w : pm_W} {S : ab_S} (hR : hs_R w 1 S) (p b : Int32) : pm_C pm_L0 MX4_follows [.ref 0, .int p, .int b] w (pm_qi fun r w1 => r = pu_follows S p b ∧ w1 = w) := by
  obtain ⟨g1, g2, g3, g4, g5, g6⟩ := id hR
  refine pm_start (lv := [some (.ref _), some (.int _), some (.int _)]) (plainFor_of_name pf4) (Nat.le_of_ble_eq_true rfl) rfl ?_
  refine pm_iload_n dX4_follows_0 rfl ?_
  refine pm_cSi (as := [.int _]) ml_RX4_43 (by decide) (Nat.le_of_ble_eq_true rfl) dX4_follows_1 (c_X4_isAsker pm_L0 _ _) (fun x1 w1 hq => ?_)
  obtain ⟨rfl, hw9⟩ := hq
  have hw9 := hw9.symm
  subst hw9
  refine pm_if_ne (tgt := 10) dX4_follows_4 (by decide) (fun c4 => ?_) (fun c4 => ?_)
  · rw [pm_z_1] at c4
    obtain ⟨q, hq4, rfl⟩ := as_of c4
    obtain ⟨ha0, hao⟩ := L0_ask hq4
    obtain ⟨a1, a2, a3, a4, a5⟩ := id hao
    have hga : as_R w (14 + 3 * q) (S.2.2.1 q) := g3 q hq4
    refine pm_iload_n dX4_follows_10 rfl ?_
    refine pm_cSi (as := [.int _]) ml_RX4_70 (by decide) (Nat.le_of_ble_eq_true rfl) dX4_follows_11 (c_X4_isBlock pm_L0 _ _) (fun x1 w1 hq => ?_)
    obtain ⟨rfl, hw9⟩ := hq
    have hw9 := hw9.symm
    subst hw9
    refine pm_if_eq (tgt := 34) dX4_follows_14 (by decide) (fun c14 => ?_) (fun c14 => ?_)
    · refine pm_bipush (x := -102) dX4_follows_34 rfl ?_
      refine pm_iret dX4_follows_36 rfl ?_
      rw [pm_z_0] at c14
      exact ⟨by rw [pu_follows, if_pos c4, if_neg (by rw [c14]; decide)], rfl⟩
    · rw [pm_z_1] at c14
      have hb63 := pm_bw_t.mp c14
      refine pm_aload_n dX4_follows_17 rfl ?_
      refine pm_getR (ci := 4) (j := 0) (n := 4) (by first | assumption | rfl) (by decide) (by decide) rfl fl_RX4_10 rfl (by first | assumption | rfl) dX4_follows_18 ?_
      refine pm_getR (ci := 3) (j := 2) (n := 11) (by first | assumption | rfl) (by decide) (by decide) rfl fl_RX4_47 rfl (by first | assumption | rfl) dX4_follows_21 ?_
      refine pm_iload_n dX4_follows_24 rfl ?_
      refine pm_kaldN (by first | assumption | rfl) (by first | assumption | omega | decide) (by first | decide | omega) (by first | assumption | rfl) dX4_follows_25 ?_
      refine pm_getR (ci := 0) (j := 1) (n := 10) (by first | assumption | rfl) (by decide) (by decide) rfl fl_RX4_117 rfl (by first | assumption | rfl) dX4_follows_26 ?_
      refine pm_iload_n dX4_follows_29 rfl ?_
      refine pm_iald (by first | assumption | rfl) (by exact ix_in hb63 (by decide)) dX4_follows_30 ?_
      refine pm_goto (tgt := 36) dX4_follows_31 (by decide) ?_
      refine pm_iret dX4_follows_36 rfl ?_
      exact ⟨by rw [pu_follows, if_pos c4, if_pos c14, nI_clamp (by omega)]; exact hga.2.2 _ (ix_lt hb63 (by decide)), rfl⟩
  · refine pm_bipush (x := -101) dX4_follows_7 rfl ?_
    refine pm_iret dX4_follows_9 rfl ?_
    rw [pm_z_0] at c4
    exact ⟨by rw [pu_follows, if_neg (by rw [c4]; decide)], rfl⟩

set_option maxRecDepth 4000 in
theorem c_X4_house {w : pm_W} {S : ab_S} (hR : hs_R w 1 S) (x : Int32) : pm_C pm_L0 MX4_house [.ref 0, .int x] w (pm_qi fun r w1 => r = pu_house S x ∧ w1 = w) := by
  obtain ⟨g1, g2, g3, g4, g5, g6⟩ := id hR
  refine pm_start (lv := [some (.ref _), some (.int _)]) (plainFor_of_name pf4) (Nat.le_of_ble_eq_true rfl) rfl ?_
  refine pm_iload_n dX4_house_0 rfl ?_
  by_cases hx : pm_bw x 0 7 = true
  · obtain ⟨j, hj, rfl⟩ := bw_of (n := 7) (by decide) hx
    rcases (show j = 0 ∨ j = 1 ∨ j = 2 ∨ j = 3 ∨ j = 4 ∨ j = 5 ∨ j = 6 ∨ j = 7 by omega) with rfl | rfl | rfl | rfl | rfl | rfl | rfl | rfl
    · refine pm_tableIn (off := 47) (tgt := 48) dX4_house_1 (by decide) (by decide) (by decide) (by decide) ?_
      refine pm_aload_n dX4_house_48 rfl ?_
      refine pm_getR (ci := 4) (j := 0) (n := 4) (by first | assumption | rfl) (by decide) (by decide) rfl fl_RX4_10 rfl (by first | assumption | rfl) dX4_house_49 ?_
      refine pm_getI (ci := 3) (j := 7) (n := 11) (by first | assumption | rfl) (by decide) (by decide) rfl fl_RX4_120 rfl dX4_house_52 ?_
      refine pm_iret dX4_house_55 rfl ?_
      exact ⟨g4 7 (by decide) (by decide), rfl⟩
    · refine pm_tableIn (off := 55) (tgt := 56) dX4_house_1 (by decide) (by decide) (by decide) (by decide) ?_
      refine pm_aload_n dX4_house_56 rfl ?_
      refine pm_getR (ci := 4) (j := 0) (n := 4) (by first | assumption | rfl) (by decide) (by decide) rfl fl_RX4_10 rfl (by first | assumption | rfl) dX4_house_57 ?_
      refine pm_getI (ci := 3) (j := 9) (n := 11) (by first | assumption | rfl) (by decide) (by decide) rfl fl_RX4_123 rfl dX4_house_60 ?_
      refine pm_iret dX4_house_63 rfl ?_
      exact ⟨g4 9 (by decide) (by decide), rfl⟩
    · refine pm_tableIn (off := 63) (tgt := 64) dX4_house_1 (by decide) (by decide) (by decide) (by decide) ?_
      refine pm_aload_n dX4_house_64 rfl ?_
      refine pm_getR (ci := 4) (j := 0) (n := 4) (by first | assumption | rfl) (by decide) (by decide) rfl fl_RX4_10 rfl (by first | assumption | rfl) dX4_house_65 ?_
      refine pm_getI (ci := 3) (j := 4) (n := 11) (by first | assumption | rfl) (by decide) (by decide) rfl fl_RX4_60 rfl dX4_house_68 ?_
      refine pm_iret dX4_house_71 rfl ?_
      exact ⟨g4 4 (by decide) (by decide), rfl⟩
    · refine pm_tableIn (off := 71) (tgt := 72) dX4_house_1 (by decide) (by decide) (by decide) (by decide) ?_
      refine pm_aload_n dX4_house_72 rfl ?_
      refine pm_getR (ci := 4) (j := 0) (n := 4) (by first | assumption | rfl) (by decide) (by decide) rfl fl_RX4_10 rfl (by first | assumption | rfl) dX4_house_73 ?_
      refine pm_getI (ci := 3) (j := 5) (n := 11) (by first | assumption | rfl) (by decide) (by decide) rfl fl_RX4_126 rfl dX4_house_76 ?_
      refine pm_iret dX4_house_79 rfl ?_
      exact ⟨g4 5 (by decide) (by decide), rfl⟩
    · refine pm_tableIn (off := 79) (tgt := 80) dX4_house_1 (by decide) (by decide) (by decide) (by decide) ?_
      refine pm_aload_n dX4_house_80 rfl ?_
      refine pm_getR (ci := 4) (j := 0) (n := 4) (by first | assumption | rfl) (by decide) (by decide) rfl fl_RX4_10 rfl (by first | assumption | rfl) dX4_house_81 ?_
      refine pm_getR (ci := 3) (j := 0) (n := 11) (by first | assumption | rfl) (by decide) (by decide) rfl fl_RX4_92 rfl (by first | assumption | rfl) dX4_house_84 ?_
      refine pm_getI (ci := 2) (j := 4) (n := 5) (by first | assumption | rfl) (by decide) (by decide) rfl fl_RX4_96 rfl dX4_house_87 ?_
      refine pm_iret dX4_house_90 rfl ?_
      exact ⟨g1.1, rfl⟩
    · refine pm_tableIn (off := 90) (tgt := 91) dX4_house_1 (by decide) (by decide) (by decide) (by decide) ?_
      refine pm_aload_n dX4_house_91 rfl ?_
      refine pm_getR (ci := 4) (j := 0) (n := 4) (by first | assumption | rfl) (by decide) (by decide) rfl fl_RX4_10 rfl (by first | assumption | rfl) dX4_house_92 ?_
      refine pm_getR (ci := 3) (j := 1) (n := 11) (by first | assumption | rfl) (by decide) (by decide) rfl fl_RX4_114 rfl (by first | assumption | rfl) dX4_house_95 ?_
      refine pm_getI (ci := 2) (j := 4) (n := 5) (by first | assumption | rfl) (by decide) (by decide) rfl fl_RX4_96 rfl dX4_house_98 ?_
      refine pm_iret dX4_house_101 rfl ?_
      exact ⟨g2.1, rfl⟩
    · refine pm_tableIn (off := 101) (tgt := 102) dX4_house_1 (by decide) (by decide) (by decide) (by decide) ?_
      refine pm_aload_n dX4_house_102 rfl ?_
      refine pm_getR (ci := 4) (j := 0) (n := 4) (by first | assumption | rfl) (by decide) (by decide) rfl fl_RX4_10 rfl (by first | assumption | rfl) dX4_house_103 ?_
      refine pm_getI (ci := 3) (j := 8) (n := 11) (by first | assumption | rfl) (by decide) (by decide) rfl fl_RX4_129 rfl dX4_house_106 ?_
      refine pm_iret dX4_house_109 rfl ?_
      exact ⟨g4 8 (by decide) (by decide), rfl⟩
    · refine pm_tableIn (off := 109) (tgt := 110) dX4_house_1 (by decide) (by decide) (by decide) (by decide) ?_
      refine pm_aload_n dX4_house_110 rfl ?_
      refine pm_getR (ci := 4) (j := 0) (n := 4) (by first | assumption | rfl) (by decide) (by decide) rfl fl_RX4_10 rfl (by first | assumption | rfl) dX4_house_111 ?_
      refine pm_getI (ci := 3) (j := 6) (n := 11) (by first | assumption | rfl) (by decide) (by decide) rfl fl_RX4_132 rfl dX4_house_114 ?_
      refine pm_iret dX4_house_117 rfl ?_
      exact ⟨g4 6 (by decide) (by decide), rfl⟩
  · have hx2 : x.toInt < 0 ∨ 7 < x.toInt := by
      rw [Bool.not_eq_true, pm_bw_f, Int32.lt_iff_toInt_lt, Int32.lt_iff_toInt_lt] at hx
      exact hx
    refine pm_tableOut (tgt := 118) dX4_house_1 hx2 (by decide) ?_
    refine pm_bipush (x := -102) dX4_house_118 rfl ?_
    refine pm_iret dX4_house_120 rfl ?_
    refine ⟨?_, rfl⟩
    have hne : ∀ k : Int32, 0 ≤ k.toInt → k.toInt ≤ 7 → ¬ x = k := fun k k1 k2 e => by subst e; omega
    rw [pu_house, if_neg (hne 0 (by decide) (by decide)), if_neg (hne 1 (by decide) (by decide)), if_neg (hne 2 (by decide) (by decide)), if_neg (hne 3 (by decide) (by decide)), if_neg (hne 4 (by decide) (by decide)), if_neg (hne 5 (by decide) (by decide)), if_neg (hne 6 (by decide) (by decide)), if_neg (hne 7 (by decide) (by decide))]
end
section
def pu_clear (S : ab_S) (a b c : Int32) : Int32 × ab_S := if pm_bw a 1 12 = true ∧ pm_bw b 1 3 = true ∧ pm_bw c 1 4 = true then (nI S.2.2.2.2.length, ab_beg a b c) else (-102, S)
def ab_fld (S : ab_S) (p j : Nat) (x : Int32) : ab_S := (S.1, S.2.1, va_up S.2.2.1 p (upd (S.2.2.1 p).1 j x, (S.2.2.1 p).2), S.2.2.2)
def pu_share (S : ab_S) (p n : Int32) : Int32 × ab_S := if pm_bw p 0 3 = true then (if pm_bw n 0 12 = true then (if S.2.2.2.1 4 < ab_sm (fun q => ab_t1 S q 8) 4 - (S.2.2.1 p.toNatClampNeg).1 4 + n then (-103, S) else ((S.2.2.1 p.toNatClampNeg).1 4, ab_fld S p.toNatClampNeg 4 n)) else (-102, S)) else (-101, S)
def pu_kind (S : ab_S) (p k r : Int32) : Int32 × ab_S := if pm_bw p 0 3 = true then (if pm_bw k 0 5 = true ∧ pm_bw r 0 8 = true then ((S.2.2.1 p.toNatClampNeg).1 2, (S.1, S.2.1, va_up S.2.2.1 p.toNatClampNeg (ab_become (S.2.2.1 p.toNatClampNeg) k r), S.2.2.2)) else (-102, S)) else (-101, S)
def pu_hint (S : ab_S) (p a b : Int32) : Int32 × ab_S := if pm_bw p 0 3 = true then (if pm_bw a 0 63 = true ∧ pm_bw b 0 63 = true ∧ a ≤ b then (if (S.2.2.1 p.toNatClampNeg).1 2 = 4 then (1, ab_fld (ab_fld S p.toNatClampNeg 5 a) p.toNatClampNeg 6 b) else (-103, S)) else (-102, S)) else (-101, S)
def pu_ask (S : ab_S) (p b : Int32) : Int32 × ab_S := if pm_bw p 0 3 = true then (if pm_bw b 0 63 = true then ((if ab_fi S.1 b < S.1.length then 0 else 1), ab_ans S (S.2.2.2.1 5).toNatClampNeg (S.2.2.2.1 6).toNatClampNeg p.toNatClampNeg b) else (-102, S)) else (-101, S)
def ab_idl (S : ab_S) (n : Nat) : Nat → ab_S × Int32
  | 0 => (S, 0)
  | k + 1 => ((ab_tick (ab_idl S n k).1 n none).1, (ab_idl S n k).2 + (ab_tick (ab_idl S n k).1 n none).2)
def pu_idle (S : ab_S) (n : Int32) : Int32 × ab_S := if pm_bw n 0 64 = true then ((ab_idl S (S.2.2.2.1 5).toNatClampNeg n.toNatClampNeg).2, (ab_idl S (S.2.2.2.1 5).toNatClampNeg n.toNatClampNeg).1) else (-102, S)
theorem as_fld {w : pm_W} {a : Nat} {A : ab_A} (h : as_R w a A) {j : Nat} (q1 : 2 ≤ j) (q2 : j < 9) (x : Int32) : as_R (pm_s w a (upd (w.1 a) j x)) a (upd A.1 j x, A.2) := by
  obtain ⟨h1, h2, h3⟩ := h
  refine ⟨fun t z1 z2 => ?_, fun t z => by rw [pm_s_ne (by omega)]; exact h2 t z, fun t z => by rw [pm_s_ne (by omega)]; exact h3 t z⟩
  rw [pm_s_at]
  by_cases ht : t = j
  · subst ht; rw [pk_us]; exact pk_us.symm
  · rw [pk_un ht]
    show _ = upd A.1 j x t
    rw [pk_un ht]
    exact h1 t z1 z2
theorem hs_fld {w : pm_W} {S : ab_S} (h : hs_R w 1 S) {p : Nat} (hp : p < 4) {j : Nat} (q1 : 2 ≤ j) (q2 : j < 9) (x : Int32) : hs_R (pm_s w (14 + 3 * p) (upd (w.1 (14 + 3 * p)) j x)) 1 (ab_fld S p j x) :=
  hs_ask h hp (as_fld (h.2.2.1 p hp) q1 q2 x) (fr_s (by omega) (by omega))
theorem fld_fr {w : pm_W} {p : Nat} (hp : p < 4) {f : Nat → Int32} : fr_out w (pm_s w (14 + 3 * p) f) 0 83 := fr_s (by omega) (by omega)

set_option maxRecDepth 4000 in
theorem c_X4_clear {w : pm_W} {S : ab_S} (hR : hs_R w 1 S) (a b c : Int32) : pm_C pm_L0 MX4_clear [.ref 0, .int a, .int b, .int c] w (pm_qi fun r w1 => r = (pu_clear S a b c).1 ∧ hs_R w1 1 (pu_clear S a b c).2 ∧ fr_out w w1 0 83) := by
  obtain ⟨g1, g2, g3, g4, g5, g6⟩ := id hR
  refine pm_start (lv := [some (.ref _), some (.int _), some (.int _), some (.int _), none]) (plainFor_of_name pf4) (Nat.le_of_ble_eq_true rfl) rfl ?_
  refine pm_iload_n dX4_clear_0 rfl ?_
  refine pm_iconst (x := 1) dX4_clear_1 rfl ?_
  refine pm_bipush (x := 12) dX4_clear_2 rfl ?_
  refine pm_cSi (as := [.int _, .int _, .int _]) ml_RX4_31 (by decide) (Nat.le_of_ble_eq_true rfl) dX4_clear_4 (c_X4_within pm_L0 _ _ _ _) (fun x1 w1 hq => ?_)
  obtain ⟨rfl, hw9⟩ := hq
  have hw9 := hw9.symm
  subst hw9
  refine pm_if_eq (tgt := 28) dX4_clear_7 (by decide) (fun c7 => ?_) (fun c7 => ?_)
  · refine pm_bipush (x := -102) dX4_clear_28 rfl ?_
    refine pm_iret dX4_clear_30 rfl ?_
    rw [pm_z_0] at c7
    rw [pu_clear, if_neg (by rintro ⟨z1, -, -⟩; rw [c7] at z1; cases z1)]
    exact ⟨rfl, hR, fr_rf _ _ _⟩
  · refine pm_iload_n dX4_clear_10 rfl ?_
    refine pm_iconst (x := 1) dX4_clear_11 rfl ?_
    refine pm_iconst (x := 3) dX4_clear_12 rfl ?_
    refine pm_cSi (as := [.int _, .int _, .int _]) ml_RX4_31 (by decide) (Nat.le_of_ble_eq_true rfl) dX4_clear_13 (c_X4_within pm_L0 _ _ _ _) (fun x1 w1 hq => ?_)
    obtain ⟨rfl, hw9⟩ := hq
    have hw9 := hw9.symm
    subst hw9
    refine pm_if_eq (tgt := 28) dX4_clear_16 (by decide) (fun c16 => ?_) (fun c16 => ?_)
    · refine pm_bipush (x := -102) dX4_clear_28 rfl ?_
      refine pm_iret dX4_clear_30 rfl ?_
      rw [pm_z_0] at c16
      rw [pu_clear, if_neg (by rintro ⟨-, z1, -⟩; rw [c16] at z1; cases z1)]
      exact ⟨rfl, hR, fr_rf _ _ _⟩
    · refine pm_iload_n dX4_clear_19 rfl ?_
      refine pm_iconst (x := 1) dX4_clear_20 rfl ?_
      refine pm_iconst (x := 4) dX4_clear_21 rfl ?_
      refine pm_cSi (as := [.int _, .int _, .int _]) ml_RX4_31 (by decide) (Nat.le_of_ble_eq_true rfl) dX4_clear_22 (c_X4_within pm_L0 _ _ _ _) (fun x1 w1 hq => ?_)
      obtain ⟨rfl, hw9⟩ := hq
      have hw9 := hw9.symm
      subst hw9
      refine pm_if_ne (tgt := 31) dX4_clear_25 (by decide) (fun c25 => ?_) (fun c25 => ?_)
      · refine pm_aload_n dX4_clear_31 rfl ?_
        refine pm_getR (ci := 4) (j := 0) (n := 4) (by first | assumption | rfl) (by decide) (by decide) rfl fl_RX4_10 rfl (by first | assumption | rfl) dX4_clear_32 ?_
        refine pm_getI (ci := 3) (j := 10) (n := 11) (by first | assumption | rfl) (by decide) (by decide) rfl fl_RX4_35 rfl dX4_clear_35 ?_
        rw [g5]
        refine pm_istore (lv' := [some (.ref _), some (.int _), some (.int _), some (.int _), some (.int _)]) dX4_clear_38 (by decide) rfl ?_
        refine pm_aload_n dX4_clear_40 rfl ?_
        refine pm_getR (ci := 4) (j := 0) (n := 4) (by first | assumption | rfl) (by decide) (by decide) rfl fl_RX4_10 rfl (by first | assumption | rfl) dX4_clear_41 ?_
        refine pm_iload_n dX4_clear_44 rfl ?_
        refine pm_iload_n dX4_clear_45 rfl ?_
        refine pm_iload_n dX4_clear_46 rfl ?_
        refine pm_cVv (as := [.int _, .int _, .int _]) (by first | assumption | rfl) (by decide) rfl ml_RX4_39 (by decide) (Nat.le_of_ble_eq_true rfl) dX4_clear_47 (c_X3_begin L0_hs1 _ a b c) (fun w1 hq => ?_)
        obtain ⟨q1, q2⟩ := hq
        refine pm_iload dX4_clear_50 rfl ?_
        refine pm_iret dX4_clear_52 rfl ?_
        rw [pm_z_1] at c7 c16 c25
        rw [pu_clear, if_pos ⟨c7, c16, c25⟩]
        exact ⟨rfl, q1, fr_wd q2 (by omega) (by omega)⟩
      · refine pm_bipush (x := -102) dX4_clear_28 rfl ?_
        refine pm_iret dX4_clear_30 rfl ?_
        rw [pm_z_0] at c25
        rw [pu_clear, if_neg (by rintro ⟨-, -, z1⟩; rw [c25] at z1; cases z1)]
        exact ⟨rfl, hR, fr_rf _ _ _⟩

set_option maxRecDepth 4000 in
theorem c_X4_share {w : pm_W} {S : ab_S} (hR : hs_R w 1 S) (p n : Int32) : pm_C pm_L0 MX4_share [.ref 0, .int p, .int n] w (pm_qi fun r w1 => r = (pu_share S p n).1 ∧ hs_R w1 1 (pu_share S p n).2 ∧ fr_out w w1 0 83) := by
  obtain ⟨g1, g2, g3, g4, g5, g6⟩ := id hR
  refine pm_start (lv := [some (.ref _), some (.int _), some (.int _), none]) (plainFor_of_name pf4) (Nat.le_of_ble_eq_true rfl) rfl ?_
  refine pm_iload_n dX4_share_0 rfl ?_
  refine pm_cSi (as := [.int _]) ml_RX4_43 (by decide) (Nat.le_of_ble_eq_true rfl) dX4_share_1 (c_X4_isAsker pm_L0 _ _) (fun x1 w1 hq => ?_)
  obtain ⟨rfl, hw9⟩ := hq
  have hw9 := hw9.symm
  subst hw9
  refine pm_if_ne (tgt := 10) dX4_share_4 (by decide) (fun c4 => ?_) (fun c4 => ?_)
  · rw [pm_z_1] at c4
    obtain ⟨q, hq4, rfl⟩ := as_of c4
    obtain ⟨ha0, hao⟩ := L0_ask hq4
    obtain ⟨a1, a2, a3, a4, a5⟩ := id hao
    have hga : as_R w (14 + 3 * q) (S.2.2.1 q) := g3 q hq4
    refine pm_iload_n dX4_share_10 rfl ?_
    refine pm_iconst (x := 0) dX4_share_11 rfl ?_
    refine pm_bipush (x := 12) dX4_share_12 rfl ?_
    refine pm_cSi (as := [.int _, .int _, .int _]) ml_RX4_31 (by decide) (Nat.le_of_ble_eq_true rfl) dX4_share_14 (c_X4_within pm_L0 _ _ _ _) (fun x1 w1 hq => ?_)
    obtain ⟨rfl, hw9⟩ := hq
    have hw9 := hw9.symm
    subst hw9
    refine pm_if_ne (tgt := 23) dX4_share_17 (by decide) (fun c17 => ?_) (fun c17 => ?_)
    · rw [pm_z_1] at c17
      refine pm_aload_n dX4_share_23 rfl ?_
      refine pm_getR (ci := 4) (j := 0) (n := 4) (by first | assumption | rfl) (by decide) (by decide) rfl fl_RX4_10 rfl (by first | assumption | rfl) dX4_share_24 ?_
      refine pm_getR (ci := 3) (j := 2) (n := 11) (by first | assumption | rfl) (by decide) (by decide) rfl fl_RX4_47 rfl (by first | assumption | rfl) dX4_share_27 ?_
      refine pm_iload_n dX4_share_30 rfl ?_
      refine pm_kaldN (by first | assumption | rfl) (by first | assumption | omega | decide) (by first | decide | omega) (by first | assumption | rfl) dX4_share_31 ?_
      refine pm_getI (ci := 0) (j := 4) (n := 10) (by first | assumption | rfl) (by decide) (by decide) rfl fl_RX4_51 rfl dX4_share_32 ?_
      rw [hga.1 4 (by decide) (by decide)]
      refine pm_istore_n (lv' := [some (.ref _), some (.int _), some (.int _), some (.int _)]) dX4_share_35 (by decide) rfl ?_
      refine pm_aload_n dX4_share_36 rfl ?_
      refine pm_bipush (x := nI 8) dX4_share_37 rfl ?_
      refine pm_cVi (as := [.int _]) (by first | assumption | rfl) (by decide) rfl ml_RX4_56 (by decide) (Nat.le_of_ble_eq_true rfl) dX4_share_39 (c_X4_toldOfAll hR (by decide)) (fun x1 w1 hq => ?_)
      obtain ⟨rfl, hw9⟩ := hq
      have hw9 := hw9.symm
      subst hw9
      refine pm_iload_n dX4_share_42 rfl ?_
      refine pm_isub dX4_share_43 ?_
      refine pm_iload_n dX4_share_44 rfl ?_
      refine pm_iadd dX4_share_45 ?_
      refine pm_aload_n dX4_share_46 rfl ?_
      refine pm_getR (ci := 4) (j := 0) (n := 4) (by first | assumption | rfl) (by decide) (by decide) rfl fl_RX4_10 rfl (by first | assumption | rfl) dX4_share_47 ?_
      refine pm_getI (ci := 3) (j := 4) (n := 11) (by first | assumption | rfl) (by decide) (by decide) rfl fl_RX4_60 rfl dX4_share_50 ?_
      rw [g4 4 (by decide) (by decide)]
      refine pm_icmp_le (tgt := 59) dX4_share_53 (by decide) (fun c53 => ?_) (fun c53 => ?_)
      · refine pm_aload_n dX4_share_59 rfl ?_
        refine pm_getR (ci := 4) (j := 0) (n := 4) (by first | assumption | rfl) (by decide) (by decide) rfl fl_RX4_10 rfl (by first | assumption | rfl) dX4_share_60 ?_
        refine pm_getR (ci := 3) (j := 2) (n := 11) (by first | assumption | rfl) (by decide) (by decide) rfl fl_RX4_47 rfl (by first | assumption | rfl) dX4_share_63 ?_
        refine pm_iload_n dX4_share_66 rfl ?_
        refine pm_kaldN (by first | assumption | rfl) (by first | assumption | omega | decide) (by first | decide | omega) (by first | assumption | rfl) dX4_share_67 ?_
        refine pm_iload_n dX4_share_68 rfl ?_
        refine pm_putI (ci := 0) (j := 4) (n := 10) (by first | assumption | rfl) (by decide) (by decide) rfl fl_RX4_51 rfl rfl dX4_share_69 ?_
        refine pm_iload_n dX4_share_72 rfl ?_
        refine pm_iret dX4_share_73 rfl ?_
        rw [pu_share, if_pos c4, if_pos c17, nI_clamp (by omega), if_neg (Int32.not_lt.mpr c53)]
        exact ⟨rfl, hs_fld hR hq4 (by decide) (by decide) n, fld_fr hq4⟩
      · refine pm_bipush (x := -103) dX4_share_56 rfl ?_
        refine pm_iret dX4_share_58 rfl ?_
        rw [pu_share, if_pos c4, if_pos c17, nI_clamp (by omega), if_pos (Int32.not_le.mp c53)]
        exact ⟨rfl, hR, fr_rf _ _ _⟩
    · refine pm_bipush (x := -102) dX4_share_20 rfl ?_
      refine pm_iret dX4_share_22 rfl ?_
      rw [pm_z_0] at c17
      rw [pu_share, if_pos c4, if_neg (by rw [c17]; decide)]
      exact ⟨rfl, hR, fr_rf _ _ _⟩
  · refine pm_bipush (x := -101) dX4_share_7 rfl ?_
    refine pm_iret dX4_share_9 rfl ?_
    rw [pm_z_0] at c4
    rw [pu_share, if_neg (by rw [c4]; decide)]
    exact ⟨rfl, hR, fr_rf _ _ _⟩

set_option maxRecDepth 4000 in
theorem c_X4_kind {w : pm_W} {S : ab_S} (hR : hs_R w 1 S) (p k r : Int32) : pm_C pm_L0 MX4_kind [.ref 0, .int p, .int k, .int r] w (pm_qi fun x w1 => x = (pu_kind S p k r).1 ∧ hs_R w1 1 (pu_kind S p k r).2 ∧ fr_out w w1 0 83) := by
  obtain ⟨g1, g2, g3, g4, g5, g6⟩ := id hR
  refine pm_start (lv := [some (.ref _), some (.int _), some (.int _), some (.int _), none]) (plainFor_of_name pf4) (Nat.le_of_ble_eq_true rfl) rfl ?_
  refine pm_iload_n dX4_kind_0 rfl ?_
  refine pm_cSi (as := [.int _]) ml_RX4_43 (by decide) (Nat.le_of_ble_eq_true rfl) dX4_kind_1 (c_X4_isAsker pm_L0 _ _) (fun x1 w1 hq => ?_)
  obtain ⟨rfl, hw9⟩ := hq
  have hw9 := hw9.symm
  subst hw9
  refine pm_if_ne (tgt := 10) dX4_kind_4 (by decide) (fun c4 => ?_) (fun c4 => ?_)
  · rw [pm_z_1] at c4
    obtain ⟨q, hq4, rfl⟩ := as_of c4
    obtain ⟨ha0, hao⟩ := L0_ask hq4
    obtain ⟨a1, a2, a3, a4, a5⟩ := id hao
    have hga : as_R w (14 + 3 * q) (S.2.2.1 q) := g3 q hq4
    refine pm_iload_n dX4_kind_10 rfl ?_
    refine pm_iconst (x := 0) dX4_kind_11 rfl ?_
    refine pm_iconst (x := 5) dX4_kind_12 rfl ?_
    refine pm_cSi (as := [.int _, .int _, .int _]) ml_RX4_31 (by decide) (Nat.le_of_ble_eq_true rfl) dX4_kind_13 (c_X4_within pm_L0 _ _ _ _) (fun x1 w1 hq => ?_)
    obtain ⟨rfl, hw9⟩ := hq
    have hw9 := hw9.symm
    subst hw9
    refine pm_if_eq (tgt := 29) dX4_kind_16 (by decide) (fun c16 => ?_) (fun c16 => ?_)
    · refine pm_bipush (x := -102) dX4_kind_29 rfl ?_
      refine pm_iret dX4_kind_31 rfl ?_
      rw [pm_z_0] at c16
      rw [pu_kind, if_pos c4, if_neg (by rintro ⟨z1, -⟩; rw [c16] at z1; cases z1)]
      exact ⟨rfl, hR, fr_rf _ _ _⟩
    · refine pm_iload_n dX4_kind_19 rfl ?_
      refine pm_iconst (x := 0) dX4_kind_20 rfl ?_
      refine pm_bipush (x := 8) dX4_kind_21 rfl ?_
      refine pm_cSi (as := [.int _, .int _, .int _]) ml_RX4_31 (by decide) (Nat.le_of_ble_eq_true rfl) dX4_kind_23 (c_X4_within pm_L0 _ _ _ _) (fun x1 w1 hq => ?_)
      obtain ⟨rfl, hw9⟩ := hq
      have hw9 := hw9.symm
      subst hw9
      refine pm_if_ne (tgt := 32) dX4_kind_26 (by decide) (fun c26 => ?_) (fun c26 => ?_)
      · refine pm_aload_n dX4_kind_32 rfl ?_
        refine pm_getR (ci := 4) (j := 0) (n := 4) (by first | assumption | rfl) (by decide) (by decide) rfl fl_RX4_10 rfl (by first | assumption | rfl) dX4_kind_33 ?_
        refine pm_getR (ci := 3) (j := 2) (n := 11) (by first | assumption | rfl) (by decide) (by decide) rfl fl_RX4_47 rfl (by first | assumption | rfl) dX4_kind_36 ?_
        refine pm_iload_n dX4_kind_39 rfl ?_
        refine pm_kaldN (by first | assumption | rfl) (by first | assumption | omega | decide) (by first | decide | omega) (by first | assumption | rfl) dX4_kind_40 ?_
        refine pm_getI (ci := 0) (j := 2) (n := 10) (by first | assumption | rfl) (by decide) (by decide) rfl fl_RX4_63 rfl dX4_kind_41 ?_
        rw [hga.1 2 (by decide) (by decide)]
        refine pm_istore (lv' := [some (.ref _), some (.int _), some (.int _), some (.int _), some (.int _)]) dX4_kind_44 (by decide) rfl ?_
        refine pm_aload_n dX4_kind_46 rfl ?_
        refine pm_getR (ci := 4) (j := 0) (n := 4) (by first | assumption | rfl) (by decide) (by decide) rfl fl_RX4_10 rfl (by first | assumption | rfl) dX4_kind_47 ?_
        refine pm_getR (ci := 3) (j := 2) (n := 11) (by first | assumption | rfl) (by decide) (by decide) rfl fl_RX4_47 rfl (by first | assumption | rfl) dX4_kind_50 ?_
        refine pm_iload_n dX4_kind_53 rfl ?_
        refine pm_kaldN (by first | assumption | rfl) (by first | assumption | omega | decide) (by first | decide | omega) (by first | assumption | rfl) dX4_kind_54 ?_
        refine pm_iload_n dX4_kind_55 rfl ?_
        refine pm_iload_n dX4_kind_56 rfl ?_
        refine pm_cVv (as := [.int _, .int _]) (by first | assumption | rfl) (by decide) rfl ml_RX4_66 (by decide) (Nat.le_of_ble_eq_true rfl) dX4_kind_57 (c_X0_become hao hga k r) (fun w1 hq => ?_)
        obtain ⟨q1, -, q2⟩ := hq
        refine pm_iload dX4_kind_60 rfl ?_
        refine pm_iret dX4_kind_62 rfl ?_
        rw [pm_z_1] at c16 c26
        rw [pu_kind, if_pos c4, if_pos ⟨c16, c26⟩, nI_clamp (by omega)]
        exact ⟨rfl, hs_ask hR hq4 q1 q2, fr_wd q2 (by omega) (by omega)⟩
      · refine pm_bipush (x := -102) dX4_kind_29 rfl ?_
        refine pm_iret dX4_kind_31 rfl ?_
        rw [pm_z_0] at c26
        rw [pu_kind, if_pos c4, if_neg (by rintro ⟨-, z1⟩; rw [c26] at z1; cases z1)]
        exact ⟨rfl, hR, fr_rf _ _ _⟩
  · refine pm_bipush (x := -101) dX4_kind_7 rfl ?_
    refine pm_iret dX4_kind_9 rfl ?_
    rw [pm_z_0] at c4
    rw [pu_kind, if_neg (by rw [c4]; decide)]
    exact ⟨rfl, hR, fr_rf _ _ _⟩

set_option maxRecDepth 4000 in
theorem c_X4_hint {w : pm_W} {S : ab_S} (hR : hs_R w 1 S) (p a b : Int32) : pm_C pm_L0 MX4_hint [.ref 0, .int p, .int a, .int b] w (pm_qi fun x w1 => x = (pu_hint S p a b).1 ∧ hs_R w1 1 (pu_hint S p a b).2 ∧ fr_out w w1 0 83) := by
  obtain ⟨g1, g2, g3, g4, g5, g6⟩ := id hR
  refine pm_start (lv := [some (.ref _), some (.int _), some (.int _), some (.int _), none]) (plainFor_of_name pf4) (Nat.le_of_ble_eq_true rfl) rfl ?_
  refine pm_iload_n dX4_hint_0 rfl ?_
  refine pm_cSi (as := [.int _]) ml_RX4_43 (by decide) (Nat.le_of_ble_eq_true rfl) dX4_hint_1 (c_X4_isAsker pm_L0 _ _) (fun x1 w1 hq => ?_)
  obtain ⟨rfl, hw9⟩ := hq
  have hw9 := hw9.symm
  subst hw9
  refine pm_if_ne (tgt := 10) dX4_hint_4 (by decide) (fun c4 => ?_) (fun c4 => ?_)
  · rw [pm_z_1] at c4
    obtain ⟨q, hq4, rfl⟩ := as_of c4
    obtain ⟨ha0, hao⟩ := L0_ask hq4
    obtain ⟨a1, a2, a3, a4, a5⟩ := id hao
    have hga : as_R w (14 + 3 * q) (S.2.2.1 q) := g3 q hq4
    refine pm_iload_n dX4_hint_10 rfl ?_
    refine pm_cSi (as := [.int _]) ml_RX4_70 (by decide) (Nat.le_of_ble_eq_true rfl) dX4_hint_11 (c_X4_isBlock pm_L0 _ _) (fun x1 w1 hq => ?_)
    obtain ⟨rfl, hw9⟩ := hq
    have hw9 := hw9.symm
    subst hw9
    refine pm_if_eq (tgt := 29) dX4_hint_14 (by decide) (fun c14 => ?_) (fun c14 => ?_)
    · refine pm_bipush (x := -102) dX4_hint_29 rfl ?_
      refine pm_iret dX4_hint_31 rfl ?_
      rw [pm_z_0] at c14
      rw [pu_hint, if_pos c4, if_neg (by rintro ⟨z1, -, -⟩; rw [c14] at z1; cases z1)]
      exact ⟨rfl, hR, fr_rf _ _ _⟩
    · refine pm_iload_n dX4_hint_17 rfl ?_
      refine pm_cSi (as := [.int _]) ml_RX4_70 (by decide) (Nat.le_of_ble_eq_true rfl) dX4_hint_18 (c_X4_isBlock pm_L0 _ _) (fun x1 w1 hq => ?_)
      obtain ⟨rfl, hw9⟩ := hq
      have hw9 := hw9.symm
      subst hw9
      refine pm_if_eq (tgt := 29) dX4_hint_21 (by decide) (fun c21 => ?_) (fun c21 => ?_)
      · refine pm_bipush (x := -102) dX4_hint_29 rfl ?_
        refine pm_iret dX4_hint_31 rfl ?_
        rw [pm_z_0] at c21
        rw [pu_hint, if_pos c4, if_neg (by rintro ⟨-, z1, -⟩; rw [c21] at z1; cases z1)]
        exact ⟨rfl, hR, fr_rf _ _ _⟩
      · refine pm_iload_n dX4_hint_24 rfl ?_
        refine pm_iload_n dX4_hint_25 rfl ?_
        refine pm_icmp_le (tgt := 32) dX4_hint_26 (by decide) (fun c26 => ?_) (fun c26 => ?_)
        · refine pm_aload_n dX4_hint_32 rfl ?_
          refine pm_getR (ci := 4) (j := 0) (n := 4) (by first | assumption | rfl) (by decide) (by decide) rfl fl_RX4_10 rfl (by first | assumption | rfl) dX4_hint_33 ?_
          refine pm_getR (ci := 3) (j := 2) (n := 11) (by first | assumption | rfl) (by decide) (by decide) rfl fl_RX4_47 rfl (by first | assumption | rfl) dX4_hint_36 ?_
          refine pm_iload_n dX4_hint_39 rfl ?_
          refine pm_kaldN (by first | assumption | rfl) (by first | assumption | omega | decide) (by first | decide | omega) (by first | assumption | rfl) dX4_hint_40 ?_
          refine pm_astore (lv' := [some (.ref _), some (.int _), some (.int _), some (.int _), some (.ref _)]) dX4_hint_41 (by decide) rfl ?_
          refine pm_aload dX4_hint_43 rfl ?_
          refine pm_getI (ci := 0) (j := 2) (n := 10) (by first | assumption | rfl) (by decide) (by decide) rfl fl_RX4_63 rfl dX4_hint_45 ?_
          rw [hga.1 2 (by decide) (by decide)]
          refine pm_iconst (x := 4) dX4_hint_48 rfl ?_
          refine pm_icmp_eq (tgt := 55) dX4_hint_49 (by decide) (fun c49 => ?_) (fun c49 => ?_)
          · refine pm_aload dX4_hint_55 rfl ?_
            refine pm_iload_n dX4_hint_57 rfl ?_
            refine pm_putI (ci := 0) (j := 5) (n := 10) (by first | assumption | rfl) (by decide) (by decide) rfl fl_RX4_73 rfl rfl dX4_hint_58 ?_
            refine pm_aload dX4_hint_61 rfl ?_
            refine pm_iload_n dX4_hint_63 rfl ?_
            refine pm_putI (ci := 0) (j := 6) (n := 10) (by first | assumption | rfl) (by decide) (by decide) rfl fl_RX4_76 rfl rfl dX4_hint_64 ?_
            refine pm_iconst (x := 1) dX4_hint_67 rfl ?_
            refine pm_iret dX4_hint_68 rfl ?_
            rw [pm_z_1] at c14 c21
            rw [pu_hint, if_pos c4, if_pos ⟨c14, c21, c26⟩, nI_clamp (by omega), if_pos c49]
            exact ⟨rfl, hs_fld (hs_fld hR hq4 (by decide) (by decide) a) hq4 (by decide) (by decide) b, fr_st (fld_fr hq4) (by omega) (by omega)⟩
          · refine pm_bipush (x := -103) dX4_hint_52 rfl ?_
            refine pm_iret dX4_hint_54 rfl ?_
            rw [pm_z_1] at c14 c21
            rw [pu_hint, if_pos c4, if_pos ⟨c14, c21, c26⟩, nI_clamp (by omega), if_neg c49]
            exact ⟨rfl, hR, fr_rf _ _ _⟩
        · refine pm_bipush (x := -102) dX4_hint_29 rfl ?_
          refine pm_iret dX4_hint_31 rfl ?_
          rw [pu_hint, if_pos c4, if_neg (by rintro ⟨-, -, z1⟩; exact c26 z1)]
          exact ⟨rfl, hR, fr_rf _ _ _⟩
  · refine pm_bipush (x := -101) dX4_hint_7 rfl ?_
    refine pm_iret dX4_hint_9 rfl ?_
    rw [pm_z_0] at c4
    rw [pu_hint, if_neg (by rw [c4]; decide)]
    exact ⟨rfl, hR, fr_rf _ _ _⟩

set_option maxRecDepth 4000 in
theorem c_X4_ask {w : pm_W} {S : ab_S} (hR : hs_R w 1 S) (hI : ab_I S) (hlen : S.2.2.2.2.length < 1000000) (p b : Int32) : pm_C pm_L0 MX4_ask [.ref 0, .int p, .int b] w (pm_qi fun x w1 => x = (pu_ask S p b).1 ∧ hs_R w1 1 (pu_ask S p b).2 ∧ fr_out w w1 0 83) := by
  obtain ⟨g1, g2, g3, g4, g5, g6⟩ := id hR
  obtain ⟨⟨sp, i1, i2, i3, i4⟩, i5, i6, i7, i8, i9, i10, i11, i12⟩ := id hI
  obtain ⟨n, n0, n1, n2⟩ := i10
  obtain ⟨pc, p0, p1, p2⟩ := i11
  refine pm_start (lv := [some (.ref _), some (.int _), some (.int _)]) (plainFor_of_name pf4) (Nat.le_of_ble_eq_true rfl) rfl ?_
  refine pm_iload_n dX4_ask_0 rfl ?_
  refine pm_cSi (as := [.int _]) ml_RX4_43 (by decide) (Nat.le_of_ble_eq_true rfl) dX4_ask_1 (c_X4_isAsker pm_L0 _ _) (fun x1 w1 hq => ?_)
  obtain ⟨rfl, hw9⟩ := hq
  have hw9 := hw9.symm
  subst hw9
  refine pm_if_ne (tgt := 10) dX4_ask_4 (by decide) (fun c4 => ?_) (fun c4 => ?_)
  · rw [pm_z_1] at c4
    obtain ⟨q, hq4, rfl⟩ := as_of c4
    obtain ⟨ha0, hao⟩ := L0_ask hq4
    obtain ⟨a1, a2, a3, a4, a5⟩ := id hao
    have hga : as_R w (14 + 3 * q) (S.2.2.1 q) := g3 q hq4
    refine pm_iload_n dX4_ask_10 rfl ?_
    refine pm_cSi (as := [.int _]) ml_RX4_70 (by decide) (Nat.le_of_ble_eq_true rfl) dX4_ask_11 (c_X4_isBlock pm_L0 _ _) (fun x1 w1 hq => ?_)
    obtain ⟨rfl, hw9⟩ := hq
    have hw9 := hw9.symm
    subst hw9
    refine pm_if_ne (tgt := 20) dX4_ask_14 (by decide) (fun c14 => ?_) (fun c14 => ?_)
    · rw [pm_z_1] at c14
      refine pm_aload_n dX4_ask_20 rfl ?_
      refine pm_getR (ci := 4) (j := 0) (n := 4) (by first | assumption | rfl) (by decide) (by decide) rfl fl_RX4_10 rfl (by first | assumption | rfl) dX4_ask_21 ?_
      refine pm_iload_n dX4_ask_24 rfl ?_
      refine pm_iload_n dX4_ask_25 rfl ?_
      refine pm_cVi (as := [.int _, .int _]) (by first | assumption | rfl) (by decide) rfl ml_RX4_79 (by decide) (Nat.le_of_ble_eq_true rfl) dX4_ask_26 (c_X3_answer L0_hs1 hR hI hlen hq4 (pm_bw_t.mp c14) n0 n1 n2 p0 p1 p2) (fun x1 w1 hq => ?_)
      obtain ⟨q1, q2, q3⟩ := hq
      refine pm_iret dX4_ask_29 rfl ?_
      rw [pu_ask, if_pos c4, if_pos c14, nI_clamp (by omega), n0, p0, nI_clamp (by omega), nI_clamp (by omega)]
      exact ⟨q1, q2, fr_wd q3 (by omega) (by omega)⟩
    · refine pm_bipush (x := -102) dX4_ask_17 rfl ?_
      refine pm_iret dX4_ask_19 rfl ?_
      rw [pm_z_0] at c14
      rw [pu_ask, if_pos c4, if_neg (by rw [c14]; decide)]
      exact ⟨rfl, hR, fr_rf _ _ _⟩
  · refine pm_bipush (x := -101) dX4_ask_7 rfl ?_
    refine pm_iret dX4_ask_9 rfl ?_
    rw [pm_z_0] at c4
    rw [pu_ask, if_neg (by rw [c4]; decide)]
    exact ⟨rfl, hR, fr_rf _ _ _⟩

theorem c_X4_idle {w : pm_W} {S : ab_S} (hR : hs_R w 1 S) (hI : ab_I S) (m : Int32) : pm_C pm_L0 MX4_idle [.ref 0, .int m] w (pm_qi fun x w1 => x = (pu_idle S m).1 ∧ hs_R w1 1 (pu_idle S m).2 ∧ fr_out w w1 0 83) := by
  obtain ⟨g1, g2, g3, g4, g5, g6⟩ := id hR
  obtain ⟨⟨sp, i1, i2, i3, i4⟩, i5, i6, i7, i8, i9, i10, i11, i12⟩ := id hI
  obtain ⟨n, n0, n1, n2⟩ := i10
  have loop : ∀ k, k ≤ 64 → pm_bw (nI k) 0 64 = true → ∀ i, i ≤ k → ∀ w1, hs_R w1 1 (ab_idl S n i).1 → ab_I (ab_idl S n i).1 → (ab_idl S n i).1.2.2.2.1 5 = nI n → fr_out w w1 0 83 → pm_R pm_L0 MX4_idle 17 [some (.ref 0), some (.int (nI k)), some (.int (ab_idl S n i).2), some (.int (nI i))] [] w1 (pm_qi fun x w1 => x = (pu_idle S (nI k)).1 ∧ hs_R w1 1 (pu_idle S (nI k)).2 ∧ fr_out w w1 0 83) := by
    intro k hk64 c7
    refine up_loop k (fun i hi ih w1 hR1 hI1 hn5 hf1 => ?_)
    refine pm_iload_n dX4_idle_17 rfl ?_
    refine pm_iload_n dX4_idle_18 rfl ?_
    refine pm_icmp_ge (tgt := 40) dX4_idle_19 (by decide) (fun c19 => ?_) (fun c19 => ?_)
    · refine pm_iload_n dX4_idle_40 rfl ?_
      refine pm_iret dX4_idle_41 rfl ?_
      rw [nI_leI (by omega) (by omega)] at c19
      have : i = k := by omega
      subst this
      rw [pu_idle, if_pos c7, n0, nI_clamp (by omega), nI_clamp (by omega)]
      exact ⟨rfl, hR1, hf1⟩
    · have hlt : i < k := by
        rw [nI_leI (by omega) (by omega)] at c19
        omega
      refine pm_iload_n dX4_idle_22 rfl ?_
      refine pm_aload_n dX4_idle_23 rfl ?_
      refine pm_getR (ci := 4) (j := 0) (n := 4) (by first | assumption | rfl) (by decide) (by decide) rfl fl_RX4_10 rfl (by first | assumption | rfl) dX4_idle_24 ?_
      refine pm_iconst (x := -1) dX4_idle_27 rfl ?_
      refine pm_iconst (x := -1) dX4_idle_28 rfl ?_
      refine pm_cVi (as := [.int _, .int _]) (by first | assumption | rfl) (by decide) rfl ml_RX4_83 (by decide) (Nat.le_of_ble_eq_true rfl) dX4_idle_29 (c_X3_tick0 L0_hs1 hR1 hI1 (n := n) hn5 n2) (fun x2 w2 hq => ?_)
      obtain ⟨rfl, hR2, hf2⟩ := hq
      refine pm_iadd dX4_idle_32 ?_
      refine pm_istore_n (lv' := [some (.ref _), some (.int _), some (.int _), some (.int _)]) dX4_idle_33 (by decide) rfl ?_
      refine pm_iinc (y := _ + 1) (lv' := [some (.ref _), some (.int _), some (.int _), some (.int _)]) dX4_idle_34 rfl rfl (by decide) rfl ?_
      refine pm_goto (tgt := 17) dX4_idle_37 (by decide) ?_
      rw [nI_1]
      exact ih hlt _ hR2 (I_tick hI1 (fun d hd => by cases hd)) ((kp_tick _ _ _).2.2.1.trans hn5) (fr_tr hf1 (fr_wd hf2 (by omega) (by omega)))
  refine pm_start (lv := [some (.ref _), some (.int _), none, none]) (plainFor_of_name pf4) (Nat.le_of_ble_eq_true rfl) rfl ?_
  refine pm_iload_n dX4_idle_0 rfl ?_
  refine pm_iconst (x := 0) dX4_idle_1 rfl ?_
  refine pm_bipush (x := 64) dX4_idle_2 rfl ?_
  refine pm_cSi (as := [.int _, .int _, .int _]) ml_RX4_31 (by decide) (Nat.le_of_ble_eq_true rfl) dX4_idle_4 (c_X4_within pm_L0 _ _ _ _) (fun x1 w1 hq => ?_)
  obtain ⟨rfl, hw9⟩ := hq
  have hw9 := hw9.symm
  subst hw9
  refine pm_if_ne (tgt := 13) dX4_idle_7 (by decide) (fun c7 => ?_) (fun c7 => ?_)
  · rw [pm_z_1] at c7
    obtain ⟨k, hk, rfl⟩ := bw_of (n := 64) (by decide) c7
    refine pm_iconst (x := 0) dX4_idle_13 rfl ?_
    refine pm_istore_n (lv' := [some (.ref _), some (.int _), some (.int _), none]) dX4_idle_14 (by decide) rfl ?_
    refine pm_iconst (x := 0) dX4_idle_15 rfl ?_
    refine pm_istore_n (lv' := [some (.ref _), some (.int _), some (.int _), some (.int _)]) dX4_idle_16 (by decide) rfl ?_
    exact loop k hk c7 0 (Nat.zero_le _) w hR hI n0 (fr_rf _ _ _)
  · refine pm_bipush (x := -102) dX4_idle_10 rfl ?_
    refine pm_iret dX4_idle_12 rfl ?_
    rw [pm_z_0] at c7
    rw [pu_idle, if_neg (by rw [c7]; decide)]
    exact ⟨rfl, hR, fr_rf _ _ _⟩
end
