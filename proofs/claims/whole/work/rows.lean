section
-- ===== PART A: goes FIRST, ahead of the names: the tables' words, and 'selects' of the private methods out of them =====
/-- a private method of a class that the tables say can be made, by its rows of tables_1 -/
def lw_okq (q : MethodName × Nat) : Prop := (q.1.cls ≠ "java/lang/invoke/MethodHandle" ∧ q.1.cls ≠ "java/lang/invoke/VarHandle") ∧ Cond.instantiable q.1.cls q.2 ∈ tables_1 ∧ Cond.privateMethod q.1 ∈ tables_1 ∧ Cond.instanceMethod q.1 ∈ tables_1
theorem lw_p0 : lw_okq (⟨"FuelTurns", "finding", "(I)I"⟩, 12) := ⟨⟨by decide +kernel, by decide +kernel⟩, List.mem_of_getElem? (i := 12) (by decide +kernel), List.mem_of_getElem? (i := 312) (by decide +kernel), List.mem_of_getElem? (i := 313) (by decide +kernel)⟩
theorem lw_p1 : lw_okq (⟨"FuelTurns$RuleReader", "learn", "(LFuelTurns$World;)V"⟩, 16) := ⟨⟨by decide +kernel, by decide +kernel⟩, List.mem_of_getElem? (i := 109) (by decide +kernel), List.mem_of_getElem? (i := 382) (by decide +kernel), List.mem_of_getElem? (i := 383) (by decide +kernel)⟩
theorem lw_p2 : lw_okq (⟨"FuelTurns$RuleReader", "readText", "([BI)V"⟩, 16) := ⟨⟨by decide +kernel, by decide +kernel⟩, List.mem_of_getElem? (i := 109) (by decide +kernel), List.mem_of_getElem? (i := 399) (by decide +kernel), List.mem_of_getElem? (i := 400) (by decide +kernel)⟩
theorem lw_p3 : lw_okq (⟨"FuelTurns$RuleReader", "beginSum", "(I)V"⟩, 16) := ⟨⟨by decide +kernel, by decide +kernel⟩, List.mem_of_getElem? (i := 109) (by decide +kernel), List.mem_of_getElem? (i := 403) (by decide +kernel), List.mem_of_getElem? (i := 404) (by decide +kernel)⟩
theorem lw_p4 : lw_okq (⟨"FuelTurns$RuleReader", "endNumber", "()V"⟩, 16) := ⟨⟨by decide +kernel, by decide +kernel⟩, List.mem_of_getElem? (i := 109) (by decide +kernel), List.mem_of_getElem? (i := 407) (by decide +kernel), List.mem_of_getElem? (i := 408) (by decide +kernel)⟩
theorem lw_p5 : lw_okq (⟨"FuelTurns$RuleReader", "endPart", "(I)V"⟩, 16) := ⟨⟨by decide +kernel, by decide +kernel⟩, List.mem_of_getElem? (i := 109) (by decide +kernel), List.mem_of_getElem? (i := 411) (by decide +kernel), List.mem_of_getElem? (i := 412) (by decide +kernel)⟩
theorem lw_p6 : lw_okq (⟨"FuelTurns$RuleReader", "takesDigit", "(I)Z"⟩, 16) := ⟨⟨by decide +kernel, by decide +kernel⟩, List.mem_of_getElem? (i := 109) (by decide +kernel), List.mem_of_getElem? (i := 415) (by decide +kernel), List.mem_of_getElem? (i := 416) (by decide +kernel)⟩
theorem lw_p7 : lw_okq (⟨"FuelTurns$RuleReader", "takesInPart", "(I)Z"⟩, 16) := ⟨⟨by decide +kernel, by decide +kernel⟩, List.mem_of_getElem? (i := 109) (by decide +kernel), List.mem_of_getElem? (i := 419) (by decide +kernel), List.mem_of_getElem? (i := 420) (by decide +kernel)⟩
theorem lw_p8 : lw_okq (⟨"FuelTurns$RuleReader", "takesBehindPart", "(I)Z"⟩, 16) := ⟨⟨by decide +kernel, by decide +kernel⟩, List.mem_of_getElem? (i := 109) (by decide +kernel), List.mem_of_getElem? (i := 426) (by decide +kernel), List.mem_of_getElem? (i := 427) (by decide +kernel)⟩
theorem lw_p9 : lw_okq (⟨"FuelTurns$RuleReader", "takesBehindSum", "(I)Z"⟩, 16) := ⟨⟨by decide +kernel, by decide +kernel⟩, List.mem_of_getElem? (i := 109) (by decide +kernel), List.mem_of_getElem? (i := 430) (by decide +kernel), List.mem_of_getElem? (i := 431) (by decide +kernel)⟩
theorem lw_p10 : lw_okq (⟨"FuelTurns$RuleReader", "placeBehind", "(I)I"⟩, 16) := ⟨⟨by decide +kernel, by decide +kernel⟩, List.mem_of_getElem? (i := 109) (by decide +kernel), List.mem_of_getElem? (i := 434) (by decide +kernel), List.mem_of_getElem? (i := 435) (by decide +kernel)⟩
theorem lw_p11 : lw_okq (⟨"FuelTurns$RuleReader", "comparesRight", "()Z"⟩, 16) := ⟨⟨by decide +kernel, by decide +kernel⟩, List.mem_of_getElem? (i := 109) (by decide +kernel), List.mem_of_getElem? (i := 438) (by decide +kernel), List.mem_of_getElem? (i := 439) (by decide +kernel)⟩
theorem lw_p12 : lw_okq (⟨"FuelTurns", "isNoWarning", "(I)Z"⟩, 12) := ⟨⟨by decide +kernel, by decide +kernel⟩, List.mem_of_getElem? (i := 12) (by decide +kernel), List.mem_of_getElem? (i := 464) (by decide +kernel), List.mem_of_getElem? (i := 465) (by decide +kernel)⟩
theorem lw_p13 : lw_okq (⟨"FuelTurns$Planner", "stay", "(LFuelTurns$World;I)V"⟩, 8) := ⟨⟨by decide +kernel, by decide +kernel⟩, List.mem_of_getElem? (i := 164) (by decide +kernel), List.mem_of_getElem? (i := 556) (by decide +kernel), List.mem_of_getElem? (i := 557) (by decide +kernel)⟩
theorem lw_p14 : lw_okq (⟨"FuelTurns$Planner", "valueFrom", "(III)J"⟩, 8) := ⟨⟨by decide +kernel, by decide +kernel⟩, List.mem_of_getElem? (i := 164) (by decide +kernel), List.mem_of_getElem? (i := 569) (by decide +kernel), List.mem_of_getElem? (i := 570) (by decide +kernel)⟩
theorem lw_p15 : lw_okq (⟨"FuelTurns$Planner", "spread", "(I)V"⟩, 8) := ⟨⟨by decide +kernel, by decide +kernel⟩, List.mem_of_getElem? (i := 164) (by decide +kernel), List.mem_of_getElem? (i := 573) (by decide +kernel), List.mem_of_getElem? (i := 574) (by decide +kernel)⟩
def lw_privs_1 : List (MethodName × Nat) := [(⟨"FuelTurns", "finding", "(I)I"⟩, 12), (⟨"FuelTurns$RuleReader", "learn", "(LFuelTurns$World;)V"⟩, 16), (⟨"FuelTurns$RuleReader", "readText", "([BI)V"⟩, 16), (⟨"FuelTurns$RuleReader", "beginSum", "(I)V"⟩, 16), (⟨"FuelTurns$RuleReader", "endNumber", "()V"⟩, 16), (⟨"FuelTurns$RuleReader", "endPart", "(I)V"⟩, 16), (⟨"FuelTurns$RuleReader", "takesDigit", "(I)Z"⟩, 16), (⟨"FuelTurns$RuleReader", "takesInPart", "(I)Z"⟩, 16), (⟨"FuelTurns$RuleReader", "takesBehindPart", "(I)Z"⟩, 16), (⟨"FuelTurns$RuleReader", "takesBehindSum", "(I)Z"⟩, 16), (⟨"FuelTurns$RuleReader", "placeBehind", "(I)I"⟩, 16), (⟨"FuelTurns$RuleReader", "comparesRight", "()Z"⟩, 16), (⟨"FuelTurns", "isNoWarning", "(I)Z"⟩, 12), (⟨"FuelTurns$Planner", "stay", "(LFuelTurns$World;I)V"⟩, 8), (⟨"FuelTurns$Planner", "valueFrom", "(III)J"⟩, 8), (⟨"FuelTurns$Planner", "spread", "(I)V"⟩, 8)]
theorem lw_r1 : ∀ q ∈ lw_privs_1, lw_okq q := List.forall_mem_cons.mpr ⟨lw_p0, List.forall_mem_cons.mpr ⟨lw_p1, List.forall_mem_cons.mpr ⟨lw_p2, List.forall_mem_cons.mpr ⟨lw_p3, List.forall_mem_cons.mpr ⟨lw_p4, List.forall_mem_cons.mpr ⟨lw_p5, List.forall_mem_cons.mpr ⟨lw_p6, List.forall_mem_cons.mpr ⟨lw_p7, List.forall_mem_cons.mpr ⟨lw_p8, List.forall_mem_cons.mpr ⟨lw_p9, List.forall_mem_cons.mpr ⟨lw_p10, List.forall_mem_cons.mpr ⟨lw_p11, List.forall_mem_cons.mpr ⟨lw_p12, List.forall_mem_cons.mpr ⟨lw_p13, List.forall_mem_cons.mpr ⟨lw_p14, List.forall_mem_cons.mpr ⟨lw_p15, fun _ h => absurd h List.not_mem_nil⟩⟩⟩⟩⟩⟩⟩⟩⟩⟩⟩⟩⟩⟩⟩⟩
theorem lw_p16 : lw_okq (⟨"FuelTurns$Planner", "step", "(III)V"⟩, 8) := ⟨⟨by decide +kernel, by decide +kernel⟩, List.mem_of_getElem? (i := 164) (by decide +kernel), List.mem_of_getElem? (i := 577) (by decide +kernel), List.mem_of_getElem? (i := 578) (by decide +kernel)⟩
theorem lw_p17 : lw_okq (⟨"FuelTurns$Planner", "follow", "(I)V"⟩, 8) := ⟨⟨by decide +kernel, by decide +kernel⟩, List.mem_of_getElem? (i := 164) (by decide +kernel), List.mem_of_getElem? (i := 584) (by decide +kernel), List.mem_of_getElem? (i := 585) (by decide +kernel)⟩
theorem lw_p18 : lw_okq (⟨"FuelTurns$Planner", "firstMove", "(III)I"⟩, 8) := ⟨⟨by decide +kernel, by decide +kernel⟩, List.mem_of_getElem? (i := 164) (by decide +kernel), List.mem_of_getElem? (i := 588) (by decide +kernel), List.mem_of_getElem? (i := 589) (by decide +kernel)⟩
theorem lw_p19 : lw_okq (⟨"FuelTurns$Planner", "keepsValue", "(IIII)Z"⟩, 8) := ⟨⟨by decide +kernel, by decide +kernel⟩, List.mem_of_getElem? (i := 164) (by decide +kernel), List.mem_of_getElem? (i := 592) (by decide +kernel), List.mem_of_getElem? (i := 593) (by decide +kernel)⟩
theorem lw_p20 : lw_okq (⟨"FuelTurns", "firstCalm", "(II)I"⟩, 12) := ⟨⟨by decide +kernel, by decide +kernel⟩, List.mem_of_getElem? (i := 12) (by decide +kernel), List.mem_of_getElem? (i := 610) (by decide +kernel), List.mem_of_getElem? (i := 611) (by decide +kernel)⟩
theorem lw_p21 : lw_okq (⟨"FuelTurns", "foresee", "(I)V"⟩, 12) := ⟨⟨by decide +kernel, by decide +kernel⟩, List.mem_of_getElem? (i := 12) (by decide +kernel), List.mem_of_getElem? (i := 644) (by decide +kernel), List.mem_of_getElem? (i := 645) (by decide +kernel)⟩
theorem lw_p22 : lw_okq (⟨"FuelTurns", "dayOfStrike", "(II)I"⟩, 12) := ⟨⟨by decide +kernel, by decide +kernel⟩, List.mem_of_getElem? (i := 12) (by decide +kernel), List.mem_of_getElem? (i := 648) (by decide +kernel), List.mem_of_getElem? (i := 649) (by decide +kernel)⟩
theorem lw_p23 : lw_okq (⟨"FuelTurns", "findingOfPair", "(I)I"⟩, 12) := ⟨⟨by decide +kernel, by decide +kernel⟩, List.mem_of_getElem? (i := 12) (by decide +kernel), List.mem_of_getElem? (i := 661) (by decide +kernel), List.mem_of_getElem? (i := 662) (by decide +kernel)⟩
theorem lw_p24 : lw_okq (⟨"FuelTurns", "findingOfSheet", "(I)I"⟩, 12) := ⟨⟨by decide +kernel, by decide +kernel⟩, List.mem_of_getElem? (i := 12) (by decide +kernel), List.mem_of_getElem? (i := 665) (by decide +kernel), List.mem_of_getElem? (i := 666) (by decide +kernel)⟩
theorem lw_p25 : lw_okq (⟨"FuelTurns$Swarm", "weigh", "(I)V"⟩, 11) := ⟨⟨by decide +kernel, by decide +kernel⟩, List.mem_of_getElem? (i := 200) (by decide +kernel), List.mem_of_getElem? (i := 706) (by decide +kernel), List.mem_of_getElem? (i := 707) (by decide +kernel)⟩
theorem lw_p26 : lw_okq (⟨"FuelTurns$Swarm", "costBehind", "(II)I"⟩, 11) := ⟨⟨by decide +kernel, by decide +kernel⟩, List.mem_of_getElem? (i := 200) (by decide +kernel), List.mem_of_getElem? (i := 710) (by decide +kernel), List.mem_of_getElem? (i := 711) (by decide +kernel)⟩
theorem lw_p27 : lw_okq (⟨"FuelTurns$Swarm", "gather", "(I)V"⟩, 11) := ⟨⟨by decide +kernel, by decide +kernel⟩, List.mem_of_getElem? (i := 200) (by decide +kernel), List.mem_of_getElem? (i := 720) (by decide +kernel), List.mem_of_getElem? (i := 721) (by decide +kernel)⟩
theorem lw_p28 : lw_okq (⟨"FuelTurns$Swarm", "follow", "()V"⟩, 11) := ⟨⟨by decide +kernel, by decide +kernel⟩, List.mem_of_getElem? (i := 200) (by decide +kernel), List.mem_of_getElem? (i := 728) (by decide +kernel), List.mem_of_getElem? (i := 729) (by decide +kernel)⟩
theorem lw_p29 : lw_okq (⟨"FuelTurns$Swarm", "firstMove", "(II)I"⟩, 11) := ⟨⟨by decide +kernel, by decide +kernel⟩, List.mem_of_getElem? (i := 200) (by decide +kernel), List.mem_of_getElem? (i := 732) (by decide +kernel), List.mem_of_getElem? (i := 733) (by decide +kernel)⟩
theorem lw_p30 : lw_okq (⟨"FuelTurns$Swarm", "fits", "(III)Z"⟩, 11) := ⟨⟨by decide +kernel, by decide +kernel⟩, List.mem_of_getElem? (i := 200) (by decide +kernel), List.mem_of_getElem? (i := 736) (by decide +kernel), List.mem_of_getElem? (i := 737) (by decide +kernel)⟩
theorem lw_p31 : lw_okq (⟨"FuelTurnsModel", "finding", "(I)I"⟩, 23) := ⟨⟨by decide +kernel, by decide +kernel⟩, List.mem_of_getElem? (i := 802) (by decide +kernel), List.mem_of_getElem? (i := 897) (by decide +kernel), List.mem_of_getElem? (i := 898) (by decide +kernel)⟩
def lw_privs_2 : List (MethodName × Nat) := [(⟨"FuelTurns$Planner", "step", "(III)V"⟩, 8), (⟨"FuelTurns$Planner", "follow", "(I)V"⟩, 8), (⟨"FuelTurns$Planner", "firstMove", "(III)I"⟩, 8), (⟨"FuelTurns$Planner", "keepsValue", "(IIII)Z"⟩, 8), (⟨"FuelTurns", "firstCalm", "(II)I"⟩, 12), (⟨"FuelTurns", "foresee", "(I)V"⟩, 12), (⟨"FuelTurns", "dayOfStrike", "(II)I"⟩, 12), (⟨"FuelTurns", "findingOfPair", "(I)I"⟩, 12), (⟨"FuelTurns", "findingOfSheet", "(I)I"⟩, 12), (⟨"FuelTurns$Swarm", "weigh", "(I)V"⟩, 11), (⟨"FuelTurns$Swarm", "costBehind", "(II)I"⟩, 11), (⟨"FuelTurns$Swarm", "gather", "(I)V"⟩, 11), (⟨"FuelTurns$Swarm", "follow", "()V"⟩, 11), (⟨"FuelTurns$Swarm", "firstMove", "(II)I"⟩, 11), (⟨"FuelTurns$Swarm", "fits", "(III)Z"⟩, 11), (⟨"FuelTurnsModel", "finding", "(I)I"⟩, 23)]
theorem lw_r2 : ∀ q ∈ lw_privs_2, lw_okq q := List.forall_mem_cons.mpr ⟨lw_p16, List.forall_mem_cons.mpr ⟨lw_p17, List.forall_mem_cons.mpr ⟨lw_p18, List.forall_mem_cons.mpr ⟨lw_p19, List.forall_mem_cons.mpr ⟨lw_p20, List.forall_mem_cons.mpr ⟨lw_p21, List.forall_mem_cons.mpr ⟨lw_p22, List.forall_mem_cons.mpr ⟨lw_p23, List.forall_mem_cons.mpr ⟨lw_p24, List.forall_mem_cons.mpr ⟨lw_p25, List.forall_mem_cons.mpr ⟨lw_p26, List.forall_mem_cons.mpr ⟨lw_p27, List.forall_mem_cons.mpr ⟨lw_p28, List.forall_mem_cons.mpr ⟨lw_p29, List.forall_mem_cons.mpr ⟨lw_p30, List.forall_mem_cons.mpr ⟨lw_p31, fun _ h => absurd h List.not_mem_nil⟩⟩⟩⟩⟩⟩⟩⟩⟩⟩⟩⟩⟩⟩⟩⟩
theorem lw_p32 : lw_okq (⟨"FuelTurnsModel", "its", "(I)I"⟩, 23) := ⟨⟨by decide +kernel, by decide +kernel⟩, List.mem_of_getElem? (i := 802) (by decide +kernel), List.mem_of_getElem? (i := 902) (by decide +kernel), List.mem_of_getElem? (i := 903) (by decide +kernel)⟩
theorem lw_p33 : lw_okq (⟨"FuelTurnsModel", "height", "()I"⟩, 23) := ⟨⟨by decide +kernel, by decide +kernel⟩, List.mem_of_getElem? (i := 802) (by decide +kernel), List.mem_of_getElem? (i := 915) (by decide +kernel), List.mem_of_getElem? (i := 916) (by decide +kernel)⟩
theorem lw_p34 : lw_okq (⟨"FuelTurnsModel", "fuel", "()I"⟩, 23) := ⟨⟨by decide +kernel, by decide +kernel⟩, List.mem_of_getElem? (i := 802) (by decide +kernel), List.mem_of_getElem? (i := 919) (by decide +kernel), List.mem_of_getElem? (i := 920) (by decide +kernel)⟩
theorem lw_p35 : lw_okq (⟨"FuelTurnsModel", "can", "(III)Z"⟩, 23) := ⟨⟨by decide +kernel, by decide +kernel⟩, List.mem_of_getElem? (i := 802) (by decide +kernel), List.mem_of_getElem? (i := 923) (by decide +kernel), List.mem_of_getElem? (i := 924) (by decide +kernel)⟩
theorem lw_p36 : lw_okq (⟨"FuelTurnsModel", "goes", "(I)V"⟩, 23) := ⟨⟨by decide +kernel, by decide +kernel⟩, List.mem_of_getElem? (i := 802) (by decide +kernel), List.mem_of_getElem? (i := 932) (by decide +kernel), List.mem_of_getElem? (i := 933) (by decide +kernel)⟩
theorem lw_p37 : lw_okq (⟨"FuelTurnsModel", "go", "(IZ)I"⟩, 23) := ⟨⟨by decide +kernel, by decide +kernel⟩, List.mem_of_getElem? (i := 802) (by decide +kernel), List.mem_of_getElem? (i := 944) (by decide +kernel), List.mem_of_getElem? (i := 945) (by decide +kernel)⟩
theorem lw_p38 : lw_okq (⟨"FuelTurnsModel", "today", "()I"⟩, 23) := ⟨⟨by decide +kernel, by decide +kernel⟩, List.mem_of_getElem? (i := 802) (by decide +kernel), List.mem_of_getElem? (i := 948) (by decide +kernel), List.mem_of_getElem? (i := 949) (by decide +kernel)⟩
theorem lw_p39 : lw_okq (⟨"FuelTurnsModel", "movesBy", "(III)I"⟩, 23) := ⟨⟨by decide +kernel, by decide +kernel⟩, List.mem_of_getElem? (i := 802) (by decide +kernel), List.mem_of_getElem? (i := 952) (by decide +kernel), List.mem_of_getElem? (i := 953) (by decide +kernel)⟩
theorem lw_p40 : lw_okq (⟨"FuelTurnsModel", "told", "(III)I"⟩, 23) := ⟨⟨by decide +kernel, by decide +kernel⟩, List.mem_of_getElem? (i := 802) (by decide +kernel), List.mem_of_getElem? (i := 956) (by decide +kernel), List.mem_of_getElem? (i := 957) (by decide +kernel)⟩
theorem lw_p41 : lw_okq (⟨"FuelTurnsModel", "nextDay", "(I)I"⟩, 23) := ⟨⟨by decide +kernel, by decide +kernel⟩, List.mem_of_getElem? (i := 802) (by decide +kernel), List.mem_of_getElem? (i := 960) (by decide +kernel), List.mem_of_getElem? (i := 961) (by decide +kernel)⟩
theorem lw_p42 : lw_okq (⟨"FuelTurnsModel", "of1", "(II)I"⟩, 23) := ⟨⟨by decide +kernel, by decide +kernel⟩, List.mem_of_getElem? (i := 802) (by decide +kernel), List.mem_of_getElem? (i := 964) (by decide +kernel), List.mem_of_getElem? (i := 965) (by decide +kernel)⟩
theorem lw_p43 : lw_okq (⟨"FuelTurnsModel", "dangerAt", "(II)I"⟩, 23) := ⟨⟨by decide +kernel, by decide +kernel⟩, List.mem_of_getElem? (i := 802) (by decide +kernel), List.mem_of_getElem? (i := 968) (by decide +kernel), List.mem_of_getElem? (i := 969) (by decide +kernel)⟩
theorem lw_p44 : lw_okq (⟨"FuelTurnsModel", "struckBy", "(II)I"⟩, 23) := ⟨⟨by decide +kernel, by decide +kernel⟩, List.mem_of_getElem? (i := 802) (by decide +kernel), List.mem_of_getElem? (i := 972) (by decide +kernel), List.mem_of_getElem? (i := 973) (by decide +kernel)⟩
theorem lw_p45 : lw_okq (⟨"FuelTurnsModel", "openMany", "(I)I"⟩, 23) := ⟨⟨by decide +kernel, by decide +kernel⟩, List.mem_of_getElem? (i := 802) (by decide +kernel), List.mem_of_getElem? (i := 983) (by decide +kernel), List.mem_of_getElem? (i := 984) (by decide +kernel)⟩
theorem lw_p46 : lw_okq (⟨"FuelTurnsModel", "isOpen", "(II)Z"⟩, 23) := ⟨⟨by decide +kernel, by decide +kernel⟩, List.mem_of_getElem? (i := 802) (by decide +kernel), List.mem_of_getElem? (i := 987) (by decide +kernel), List.mem_of_getElem? (i := 988) (by decide +kernel)⟩
theorem lw_p47 : lw_okq (⟨"FuelTurnsModel", "ends", "()V"⟩, 23) := ⟨⟨by decide +kernel, by decide +kernel⟩, List.mem_of_getElem? (i := 802) (by decide +kernel), List.mem_of_getElem? (i := 994) (by decide +kernel), List.mem_of_getElem? (i := 995) (by decide +kernel)⟩
def lw_privs_3 : List (MethodName × Nat) := [(⟨"FuelTurnsModel", "its", "(I)I"⟩, 23), (⟨"FuelTurnsModel", "height", "()I"⟩, 23), (⟨"FuelTurnsModel", "fuel", "()I"⟩, 23), (⟨"FuelTurnsModel", "can", "(III)Z"⟩, 23), (⟨"FuelTurnsModel", "goes", "(I)V"⟩, 23), (⟨"FuelTurnsModel", "go", "(IZ)I"⟩, 23), (⟨"FuelTurnsModel", "today", "()I"⟩, 23), (⟨"FuelTurnsModel", "movesBy", "(III)I"⟩, 23), (⟨"FuelTurnsModel", "told", "(III)I"⟩, 23), (⟨"FuelTurnsModel", "nextDay", "(I)I"⟩, 23), (⟨"FuelTurnsModel", "of1", "(II)I"⟩, 23), (⟨"FuelTurnsModel", "dangerAt", "(II)I"⟩, 23), (⟨"FuelTurnsModel", "struckBy", "(II)I"⟩, 23), (⟨"FuelTurnsModel", "openMany", "(I)I"⟩, 23), (⟨"FuelTurnsModel", "isOpen", "(II)Z"⟩, 23), (⟨"FuelTurnsModel", "ends", "()V"⟩, 23)]
theorem lw_r3 : ∀ q ∈ lw_privs_3, lw_okq q := List.forall_mem_cons.mpr ⟨lw_p32, List.forall_mem_cons.mpr ⟨lw_p33, List.forall_mem_cons.mpr ⟨lw_p34, List.forall_mem_cons.mpr ⟨lw_p35, List.forall_mem_cons.mpr ⟨lw_p36, List.forall_mem_cons.mpr ⟨lw_p37, List.forall_mem_cons.mpr ⟨lw_p38, List.forall_mem_cons.mpr ⟨lw_p39, List.forall_mem_cons.mpr ⟨lw_p40, List.forall_mem_cons.mpr ⟨lw_p41, List.forall_mem_cons.mpr ⟨lw_p42, List.forall_mem_cons.mpr ⟨lw_p43, List.forall_mem_cons.mpr ⟨lw_p44, List.forall_mem_cons.mpr ⟨lw_p45, List.forall_mem_cons.mpr ⟨lw_p46, List.forall_mem_cons.mpr ⟨lw_p47, fun _ h => absurd h List.not_mem_nil⟩⟩⟩⟩⟩⟩⟩⟩⟩⟩⟩⟩⟩⟩⟩⟩
theorem lw_p48 : lw_okq (⟨"FuelTurnsModel", "useAt", "(I)J"⟩, 23) := ⟨⟨by decide +kernel, by decide +kernel⟩, List.mem_of_getElem? (i := 802) (by decide +kernel), List.mem_of_getElem? (i := 998) (by decide +kernel), List.mem_of_getElem? (i := 999) (by decide +kernel)⟩
theorem lw_p49 : lw_okq (⟨"FuelTurnsModel", "isWarning", "(I)Z"⟩, 23) := ⟨⟨by decide +kernel, by decide +kernel⟩, List.mem_of_getElem? (i := 802) (by decide +kernel), List.mem_of_getElem? (i := 1018) (by decide +kernel), List.mem_of_getElem? (i := 1019) (by decide +kernel)⟩
theorem lw_p50 : lw_okq (⟨"FuelTurnsModel", "looks", "(IIZZ)I"⟩, 23) := ⟨⟨by decide +kernel, by decide +kernel⟩, List.mem_of_getElem? (i := 802) (by decide +kernel), List.mem_of_getElem? (i := 1038) (by decide +kernel), List.mem_of_getElem? (i := 1039) (by decide +kernel)⟩
theorem lw_p51 : lw_okq (⟨"FuelTurnsModel", "behind", "(IIZ)I"⟩, 23) := ⟨⟨by decide +kernel, by decide +kernel⟩, List.mem_of_getElem? (i := 802) (by decide +kernel), List.mem_of_getElem? (i := 1043) (by decide +kernel), List.mem_of_getElem? (i := 1044) (by decide +kernel)⟩
theorem lw_p52 : lw_okq (⟨"FuelTurnsModel", "whole", "()Z"⟩, 23) := ⟨⟨by decide +kernel, by decide +kernel⟩, List.mem_of_getElem? (i := 802) (by decide +kernel), List.mem_of_getElem? (i := 1079) (by decide +kernel), List.mem_of_getElem? (i := 1080) (by decide +kernel)⟩
theorem lw_p53 : lw_okq (⟨"FuelTurnsModel", "sum", "()Z"⟩, 23) := ⟨⟨by decide +kernel, by decide +kernel⟩, List.mem_of_getElem? (i := 802) (by decide +kernel), List.mem_of_getElem? (i := 1083) (by decide +kernel), List.mem_of_getElem? (i := 1084) (by decide +kernel)⟩
theorem lw_p54 : lw_okq (⟨"FuelTurnsModel", "part", "()Z"⟩, 23) := ⟨⟨by decide +kernel, by decide +kernel⟩, List.mem_of_getElem? (i := 802) (by decide +kernel), List.mem_of_getElem? (i := 1087) (by decide +kernel), List.mem_of_getElem? (i := 1088) (by decide +kernel)⟩
theorem lw_p55 : lw_okq (⟨"FuelTurnsModel", "here", "()I"⟩, 23) := ⟨⟨by decide +kernel, by decide +kernel⟩, List.mem_of_getElem? (i := 802) (by decide +kernel), List.mem_of_getElem? (i := 1091) (by decide +kernel), List.mem_of_getElem? (i := 1092) (by decide +kernel)⟩
theorem lw_p56 : lw_okq (⟨"FuelTurnsModel", "lays", "(II)V"⟩, 23) := ⟨⟨by decide +kernel, by decide +kernel⟩, List.mem_of_getElem? (i := 802) (by decide +kernel), List.mem_of_getElem? (i := 1098) (by decide +kernel), List.mem_of_getElem? (i := 1099) (by decide +kernel)⟩
theorem lw_p57 : lw_okq (⟨"FuelTurnsModel", "opens", "()Z"⟩, 23) := ⟨⟨by decide +kernel, by decide +kernel⟩, List.mem_of_getElem? (i := 802) (by decide +kernel), List.mem_of_getElem? (i := 1104) (by decide +kernel), List.mem_of_getElem? (i := 1105) (by decide +kernel)⟩
theorem lw_p58 : lw_okq (⟨"FuelTurnsModel", "takes", "(I)Z"⟩, 23) := ⟨⟨by decide +kernel, by decide +kernel⟩, List.mem_of_getElem? (i := 802) (by decide +kernel), List.mem_of_getElem? (i := 1108) (by decide +kernel), List.mem_of_getElem? (i := 1109) (by decide +kernel)⟩
theorem lw_p59 : lw_okq (⟨"FuelTurnsModel", "isCompare", "()Z"⟩, 23) := ⟨⟨by decide +kernel, by decide +kernel⟩, List.mem_of_getElem? (i := 802) (by decide +kernel), List.mem_of_getElem? (i := 1112) (by decide +kernel), List.mem_of_getElem? (i := 1113) (by decide +kernel)⟩
theorem lw_p60 : lw_okq (⟨"FuelTurnsModel", "condition", "()Z"⟩, 23) := ⟨⟨by decide +kernel, by decide +kernel⟩, List.mem_of_getElem? (i := 802) (by decide +kernel), List.mem_of_getElem? (i := 1116) (by decide +kernel), List.mem_of_getElem? (i := 1117) (by decide +kernel)⟩
theorem lw_p61 : lw_okq (⟨"FuelTurnsModel", "compared", "()Z"⟩, 23) := ⟨⟨by decide +kernel, by decide +kernel⟩, List.mem_of_getElem? (i := 802) (by decide +kernel), List.mem_of_getElem? (i := 1120) (by decide +kernel), List.mem_of_getElem? (i := 1121) (by decide +kernel)⟩
theorem lw_p62 : lw_okq (⟨"FuelTurnsModel", "bestWorth", "(I)J"⟩, 23) := ⟨⟨by decide +kernel, by decide +kernel⟩, List.mem_of_getElem? (i := 802) (by decide +kernel), List.mem_of_getElem? (i := 1141) (by decide +kernel), List.mem_of_getElem? (i := 1142) (by decide +kernel)⟩
theorem lw_p63 : lw_okq (⟨"FuelTurnsModel", "findBest", "(I)V"⟩, 23) := ⟨⟨by decide +kernel, by decide +kernel⟩, List.mem_of_getElem? (i := 802) (by decide +kernel), List.mem_of_getElem? (i := 1145) (by decide +kernel), List.mem_of_getElem? (i := 1146) (by decide +kernel)⟩
def lw_privs_4 : List (MethodName × Nat) := [(⟨"FuelTurnsModel", "useAt", "(I)J"⟩, 23), (⟨"FuelTurnsModel", "isWarning", "(I)Z"⟩, 23), (⟨"FuelTurnsModel", "looks", "(IIZZ)I"⟩, 23), (⟨"FuelTurnsModel", "behind", "(IIZ)I"⟩, 23), (⟨"FuelTurnsModel", "whole", "()Z"⟩, 23), (⟨"FuelTurnsModel", "sum", "()Z"⟩, 23), (⟨"FuelTurnsModel", "part", "()Z"⟩, 23), (⟨"FuelTurnsModel", "here", "()I"⟩, 23), (⟨"FuelTurnsModel", "lays", "(II)V"⟩, 23), (⟨"FuelTurnsModel", "opens", "()Z"⟩, 23), (⟨"FuelTurnsModel", "takes", "(I)Z"⟩, 23), (⟨"FuelTurnsModel", "isCompare", "()Z"⟩, 23), (⟨"FuelTurnsModel", "condition", "()Z"⟩, 23), (⟨"FuelTurnsModel", "compared", "()Z"⟩, 23), (⟨"FuelTurnsModel", "bestWorth", "(I)J"⟩, 23), (⟨"FuelTurnsModel", "findBest", "(I)V"⟩, 23)]
theorem lw_r4 : ∀ q ∈ lw_privs_4, lw_okq q := List.forall_mem_cons.mpr ⟨lw_p48, List.forall_mem_cons.mpr ⟨lw_p49, List.forall_mem_cons.mpr ⟨lw_p50, List.forall_mem_cons.mpr ⟨lw_p51, List.forall_mem_cons.mpr ⟨lw_p52, List.forall_mem_cons.mpr ⟨lw_p53, List.forall_mem_cons.mpr ⟨lw_p54, List.forall_mem_cons.mpr ⟨lw_p55, List.forall_mem_cons.mpr ⟨lw_p56, List.forall_mem_cons.mpr ⟨lw_p57, List.forall_mem_cons.mpr ⟨lw_p58, List.forall_mem_cons.mpr ⟨lw_p59, List.forall_mem_cons.mpr ⟨lw_p60, List.forall_mem_cons.mpr ⟨lw_p61, List.forall_mem_cons.mpr ⟨lw_p62, List.forall_mem_cons.mpr ⟨lw_p63, fun _ h => absurd h List.not_mem_nil⟩⟩⟩⟩⟩⟩⟩⟩⟩⟩⟩⟩⟩⟩⟩⟩
theorem lw_p64 : lw_okq (⟨"FuelTurnsModel", "dayWorth", "(II)J"⟩, 23) := ⟨⟨by decide +kernel, by decide +kernel⟩, List.mem_of_getElem? (i := 802) (by decide +kernel), List.mem_of_getElem? (i := 1149) (by decide +kernel), List.mem_of_getElem? (i := 1150) (by decide +kernel)⟩
theorem lw_p65 : lw_okq (⟨"FuelTurnsModel", "findOne", "(III)V"⟩, 23) := ⟨⟨by decide +kernel, by decide +kernel⟩, List.mem_of_getElem? (i := 802) (by decide +kernel), List.mem_of_getElem? (i := 1153) (by decide +kernel), List.mem_of_getElem? (i := 1154) (by decide +kernel)⟩
theorem lw_p66 : lw_okq (⟨"FuelTurnsModel", "moveOf", "(II)I"⟩, 23) := ⟨⟨by decide +kernel, by decide +kernel⟩, List.mem_of_getElem? (i := 802) (by decide +kernel), List.mem_of_getElem? (i := 1163) (by decide +kernel), List.mem_of_getElem? (i := 1164) (by decide +kernel)⟩
theorem lw_p67 : lw_okq (⟨"FuelTurnsModel", "worthBehind", "(III)J"⟩, 23) := ⟨⟨by decide +kernel, by decide +kernel⟩, List.mem_of_getElem? (i := 802) (by decide +kernel), List.mem_of_getElem? (i := 1184) (by decide +kernel), List.mem_of_getElem? (i := 1185) (by decide +kernel)⟩
theorem lw_p68 : lw_okq (⟨"FuelTurnsModel", "lasts", "(II)I"⟩, 23) := ⟨⟨by decide +kernel, by decide +kernel⟩, List.mem_of_getElem? (i := 802) (by decide +kernel), List.mem_of_getElem? (i := 1192) (by decide +kernel), List.mem_of_getElem? (i := 1193) (by decide +kernel)⟩
theorem lw_p69 : lw_okq (⟨"FuelTurnsModel", "hinders", "(IIIJ)I"⟩, 23) := ⟨⟨by decide +kernel, by decide +kernel⟩, List.mem_of_getElem? (i := 802) (by decide +kernel), List.mem_of_getElem? (i := 1205) (by decide +kernel), List.mem_of_getElem? (i := 1206) (by decide +kernel)⟩
theorem lw_p70 : lw_okq (⟨"FuelTurnsModel", "numberOf", "(II)J"⟩, 23) := ⟨⟨by decide +kernel, by decide +kernel⟩, List.mem_of_getElem? (i := 802) (by decide +kernel), List.mem_of_getElem? (i := 1212) (by decide +kernel), List.mem_of_getElem? (i := 1213) (by decide +kernel)⟩
theorem lw_p71 : lw_okq (⟨"FuelTurnsModel", "isRest", "(II)Z"⟩, 23) := ⟨⟨by decide +kernel, by decide +kernel⟩, List.mem_of_getElem? (i := 802) (by decide +kernel), List.mem_of_getElem? (i := 1216) (by decide +kernel), List.mem_of_getElem? (i := 1217) (by decide +kernel)⟩
theorem lw_p72 : lw_okq (⟨"FuelTurnsModel", "findSwarm", "(III)V"⟩, 23) := ⟨⟨by decide +kernel, by decide +kernel⟩, List.mem_of_getElem? (i := 802) (by decide +kernel), List.mem_of_getElem? (i := 1229) (by decide +kernel), List.mem_of_getElem? (i := 1230) (by decide +kernel)⟩
theorem lw_p73 : lw_okq (⟨"FuelTurnsModel", "heightOf", "(III)I"⟩, 23) := ⟨⟨by decide +kernel, by decide +kernel⟩, List.mem_of_getElem? (i := 802) (by decide +kernel), List.mem_of_getElem? (i := 1233) (by decide +kernel), List.mem_of_getElem? (i := 1234) (by decide +kernel)⟩
theorem lw_p74 : lw_okq (⟨"FuelTurnsModel", "lacks", "(I)I"⟩, 23) := ⟨⟨by decide +kernel, by decide +kernel⟩, List.mem_of_getElem? (i := 802) (by decide +kernel), List.mem_of_getElem? (i := 1253) (by decide +kernel), List.mem_of_getElem? (i := 1254) (by decide +kernel)⟩
def lw_privs_5 : List (MethodName × Nat) := [(⟨"FuelTurnsModel", "dayWorth", "(II)J"⟩, 23), (⟨"FuelTurnsModel", "findOne", "(III)V"⟩, 23), (⟨"FuelTurnsModel", "moveOf", "(II)I"⟩, 23), (⟨"FuelTurnsModel", "worthBehind", "(III)J"⟩, 23), (⟨"FuelTurnsModel", "lasts", "(II)I"⟩, 23), (⟨"FuelTurnsModel", "hinders", "(IIIJ)I"⟩, 23), (⟨"FuelTurnsModel", "numberOf", "(II)J"⟩, 23), (⟨"FuelTurnsModel", "isRest", "(II)Z"⟩, 23), (⟨"FuelTurnsModel", "findSwarm", "(III)V"⟩, 23), (⟨"FuelTurnsModel", "heightOf", "(III)I"⟩, 23), (⟨"FuelTurnsModel", "lacks", "(I)I"⟩, 23)]
theorem lw_r5 : ∀ q ∈ lw_privs_5, lw_okq q := List.forall_mem_cons.mpr ⟨lw_p64, List.forall_mem_cons.mpr ⟨lw_p65, List.forall_mem_cons.mpr ⟨lw_p66, List.forall_mem_cons.mpr ⟨lw_p67, List.forall_mem_cons.mpr ⟨lw_p68, List.forall_mem_cons.mpr ⟨lw_p69, List.forall_mem_cons.mpr ⟨lw_p70, List.forall_mem_cons.mpr ⟨lw_p71, List.forall_mem_cons.mpr ⟨lw_p72, List.forall_mem_cons.mpr ⟨lw_p73, List.forall_mem_cons.mpr ⟨lw_p74, fun _ h => absurd h List.not_mem_nil⟩⟩⟩⟩⟩⟩⟩⟩⟩⟩⟩
def lw_privs : List (MethodName × Nat) := lw_privs_1 ++ (lw_privs_2 ++ (lw_privs_3 ++ (lw_privs_4 ++ (lw_privs_5))))
def lw_tbl : List Cond := k2_sels lw_privs ++ tables_1
theorem lw_privs_ok : ∀ q ∈ lw_privs, lw_okq q := by
  show ∀ q ∈ lw_privs_1 ++ (lw_privs_2 ++ (lw_privs_3 ++ (lw_privs_4 ++ (lw_privs_5)))), lw_okq q
  exact List.forall_mem_append.mpr ⟨lw_r1, List.forall_mem_append.mpr ⟨lw_r2, List.forall_mem_append.mpr ⟨lw_r3, List.forall_mem_append.mpr ⟨lw_r4, lw_r5⟩⟩⟩⟩
end
section
def RX0 : String := "FuelTurns$Planner"
def TX0 : u_T := fun k => match k with
  | 0 => ("FuelTurns$Planner", "gains", "[J", true)
  | 1 => ("FuelTurns$Planner", "values", "[J", true)
  | 2 => ("FuelTurns$Planner", "days", "I", false)
  | 3 => ("FuelTurns$Planner", "budget", "I", false)
  | 4 => ("FuelTurns$Planner", "moves", "[I", true)
  | 5 => ("FuelTurns$Planner", "worth", "J", false)
  | 6 => ("FuelTurns$Planner", "steps", "I", false)
  | _ => ("FuelTurns$Planner", "moving", "I", false)
def tyX0 : Nat → FieldType := fun k => match k with
  | 0 => .array .long
  | 1 => .array .long
  | 2 => .int
  | 3 => .int
  | 4 => .array .int
  | 5 => .long
  | 6 => .int
  | _ => .int
abbrev wsX00 : List Cond := u_ws RX0 TX0 8
theorem nmX0 : ∀ a, a < 8 → ∀ b, b < 8 → a ≠ b → (TX0 a).2.1 ≠ (TX0 b).2.1 := by decide +kernel
theorem tyX0_ok : ∀ k, k < 8 → parseFieldDescriptor (TX0 k).2.2.1 = some (tyX0 k) := by decide +kernel
abbrev cX0_init : ByteArray := prog_2_method_1_code
def yX0_init : MethodName := ⟨RX0, "<init>", "()V"⟩
abbrev cX0_make : ByteArray := prog_2_method_2_code
def yX0_make : MethodName := ⟨RX0, "make", "(LFuelTurns$World;I)J"⟩
abbrev cX0_stay : ByteArray := prog_2_method_3_code
def yX0_stay : MethodName := ⟨RX0, "stay", "(LFuelTurns$World;I)V"⟩
abbrev cX0_spread : ByteArray := prog_2_method_4_code
def yX0_spread : MethodName := ⟨RX0, "spread", "(I)V"⟩
abbrev cX0_step : ByteArray := prog_2_method_5_code
def yX0_step : MethodName := ⟨RX0, "step", "(III)V"⟩
abbrev cX0_cell : ByteArray := prog_2_method_6_code
def yX0_cell : MethodName := ⟨RX0, "cell", "(III)I"⟩
abbrev cX0_valueFrom : ByteArray := prog_2_method_7_code
def yX0_valueFrom : MethodName := ⟨RX0, "valueFrom", "(III)J"⟩
abbrev cX0_follow : ByteArray := prog_2_method_8_code
def yX0_follow : MethodName := ⟨RX0, "follow", "(I)V"⟩
abbrev cX0_firstMove : ByteArray := prog_2_method_9_code
def yX0_firstMove : MethodName := ⟨RX0, "firstMove", "(III)I"⟩
abbrev cX0_keepsValue : ByteArray := prog_2_method_10_code
def yX0_keepsValue : MethodName := ⟨RX0, "keepsValue", "(IIII)Z"⟩
def RX1 : String := "FuelTurns$RuleReader"
def TX1 : u_T := fun k => match k with
  | 0 => ("FuelTurns$RuleReader", "facts", "[I", true)
  | 1 => ("FuelTurns$RuleReader", "fault", "I", false)
  | 2 => ("FuelTurns$RuleReader", "place", "I", false)
  | 3 => ("FuelTurns$RuleReader", "wantsPart", "Z", false)
  | 4 => ("FuelTurns$RuleReader", "number", "I", false)
  | 5 => ("FuelTurns$RuleReader", "digits", "I", false)
  | 6 => ("FuelTurns$RuleReader", "sum", "I", false)
  | 7 => ("FuelTurns$RuleReader", "partSign", "I", false)
  | 8 => ("FuelTurns$RuleReader", "sumsAround", "[I", true)
  | 9 => ("FuelTurns$RuleReader", "signsAround", "[I", true)
  | 10 => ("FuelTurns$RuleReader", "open", "I", false)
  | 11 => ("FuelTurns$RuleReader", "left", "I", false)
  | 12 => ("FuelTurns$RuleReader", "comparison", "I", false)
  | 13 => ("FuelTurns$RuleReader", "holds", "Z", false)
  | 14 => ("FuelTurns$RuleReader", "chosen", "Z", false)
  | _ => ("FuelTurns$RuleReader", "value", "I", false)
def tyX1 : Nat → FieldType := fun k => match k with
  | 0 => .array .int
  | 1 => .int
  | 2 => .int
  | 3 => .boolean
  | 4 => .int
  | 5 => .int
  | 6 => .int
  | 7 => .int
  | 8 => .array .int
  | 9 => .array .int
  | 10 => .int
  | 11 => .int
  | 12 => .int
  | 13 => .boolean
  | 14 => .boolean
  | _ => .int
abbrev wsX10 : List Cond := u_ws RX1 TX1 16
theorem nmX1 : ∀ a, a < 16 → ∀ b, b < 16 → a ≠ b → (TX1 a).2.1 ≠ (TX1 b).2.1 := by decide +kernel
theorem tyX1_ok : ∀ k, k < 16 → parseFieldDescriptor (TX1 k).2.2.1 = some (tyX1 k) := by decide +kernel
abbrev cX1_init : ByteArray := prog_3_method_1_code
def yX1_init : MethodName := ⟨RX1, "<init>", "()V"⟩
abbrev cX1_told : ByteArray := prog_3_method_2_code
def yX1_told : MethodName := ⟨RX1, "told", "(LFuelTurns$World;)I"⟩
abbrev cX1_faultOf : ByteArray := prog_3_method_3_code
def yX1_faultOf : MethodName := ⟨RX1, "faultOf", "([BI)I"⟩
abbrev cX1_learn : ByteArray := prog_3_method_4_code
def yX1_learn : MethodName := ⟨RX1, "learn", "(LFuelTurns$World;)V"⟩
abbrev cX1_nameOf : ByteArray := prog_3_method_5_code
def yX1_nameOf : MethodName := ⟨RX1, "nameOf", "(I)I"⟩
abbrev cX1_readText : ByteArray := prog_3_method_6_code
def yX1_readText : MethodName := ⟨RX1, "readText", "([BI)V"⟩
abbrev cX1_beginSum : ByteArray := prog_3_method_7_code
def yX1_beginSum : MethodName := ⟨RX1, "beginSum", "(I)V"⟩
abbrev cX1_takesDigit : ByteArray := prog_3_method_8_code
def yX1_takesDigit : MethodName := ⟨RX1, "takesDigit", "(I)Z"⟩
abbrev cX1_endNumber : ByteArray := prog_3_method_9_code
def yX1_endNumber : MethodName := ⟨RX1, "endNumber", "()V"⟩
abbrev cX1_takesInPart : ByteArray := prog_3_method_10_code
def yX1_takesInPart : MethodName := ⟨RX1, "takesInPart", "(I)Z"⟩
abbrev cX1_endPart : ByteArray := prog_3_method_11_code
def yX1_endPart : MethodName := ⟨RX1, "endPart", "(I)V"⟩
abbrev cX1_takesBehindPart : ByteArray := prog_3_method_12_code
def yX1_takesBehindPart : MethodName := ⟨RX1, "takesBehindPart", "(I)Z"⟩
abbrev cX1_takesBehindSum : ByteArray := prog_3_method_13_code
def yX1_takesBehindSum : MethodName := ⟨RX1, "takesBehindSum", "(I)Z"⟩
abbrev cX1_placeBehind : ByteArray := prog_3_method_14_code
def yX1_placeBehind : MethodName := ⟨RX1, "placeBehind", "(I)I"⟩
abbrev cX1_comparesRight : ByteArray := prog_3_method_15_code
def yX1_comparesRight : MethodName := ⟨RX1, "comparesRight", "()Z"⟩
def RX2 : String := "FuelTurns$Sheet"
def TX2 : u_T := fun k => match k with
  | 0 => ("FuelTurns$Sheet", "bits", "I", false)
  | 1 => ("FuelTurns$Sheet", "size", "I", false)
  | _ => ("FuelTurns$Sheet", "numbers", "[J", true)
def tyX2 : Nat → FieldType := fun k => match k with
  | 0 => .int
  | 1 => .int
  | _ => .array .long
abbrev wsX20 : List Cond := u_ws RX2 TX2 3
theorem nmX2 : ∀ a, a < 3 → ∀ b, b < 3 → a ≠ b → (TX2 a).2.1 ≠ (TX2 b).2.1 := by decide +kernel
theorem tyX2_ok : ∀ k, k < 3 → parseFieldDescriptor (TX2 k).2.2.1 = some (tyX2 k) := by decide +kernel
abbrev cX2_init : ByteArray := prog_4_method_1_code
def yX2_init : MethodName := ⟨RX2, "<init>", "()V"⟩
abbrev cX2_isMissing : ByteArray := prog_4_method_2_code
def yX2_isMissing : MethodName := ⟨RX2, "isMissing", "()Z"⟩
abbrev cX2_begin : ByteArray := prog_4_method_3_code
def yX2_begin : MethodName := ⟨RX2, "begin", "(II)V"⟩
abbrev cX2_put : ByteArray := prog_4_method_4_code
def yX2_put : MethodName := ⟨RX2, "put", "(IJ)V"⟩
abbrev cX2_hasFrom : ByteArray := prog_4_method_5_code
def yX2_hasFrom : MethodName := ⟨RX2, "hasFrom", "(II)Z"⟩
abbrev cX2_isWithin : ByteArray := prog_4_method_6_code
def yX2_isWithin : MethodName := ⟨RX2, "isWithin", "(I)Z"⟩
def RX3 : String := "FuelTurns$Swarm"
def TX3 : u_T := fun k => match k with
  | 0 => ("FuelTurns$Swarm", "heights", "[I", true)
  | 1 => ("FuelTurns$Swarm", "costs", "[I", true)
  | 2 => ("FuelTurns$Swarm", "downFrom", "[I", true)
  | 3 => ("FuelTurns$Swarm", "upFrom", "[I", true)
  | 4 => ("FuelTurns$Swarm", "moves", "[I", true)
  | 5 => ("FuelTurns$Swarm", "size", "I", false)
  | 6 => ("FuelTurns$Swarm", "gap", "I", false)
  | 7 => ("FuelTurns$Swarm", "most", "I", false)
  | 8 => ("FuelTurns$Swarm", "cost", "I", false)
  | 9 => ("FuelTurns$Swarm", "moving", "I", false)
  | _ => ("FuelTurns$Swarm", "steps", "I", false)
def tyX3 : Nat → FieldType := fun k => match k with
  | 0 => .array .int
  | 1 => .array .int
  | 2 => .array .int
  | 3 => .array .int
  | 4 => .array .int
  | 5 => .int
  | 6 => .int
  | 7 => .int
  | 8 => .int
  | 9 => .int
  | _ => .int
abbrev wsX30 : List Cond := u_ws RX3 TX3 11
theorem nmX3 : ∀ a, a < 11 → ∀ b, b < 11 → a ≠ b → (TX3 a).2.1 ≠ (TX3 b).2.1 := by decide +kernel
theorem tyX3_ok : ∀ k, k < 11 → parseFieldDescriptor (TX3 k).2.2.1 = some (tyX3 k) := by decide +kernel
abbrev cX3_init : ByteArray := prog_5_method_1_code
def yX3_init : MethodName := ⟨RX3, "<init>", "()V"⟩
abbrev cX3_load : ByteArray := prog_5_method_2_code
def yX3_load : MethodName := ⟨RX3, "load", "(LFuelTurns$Sheet;II)V"⟩
abbrev cX3_canBe : ByteArray := prog_5_method_3_code
def yX3_canBe : MethodName := ⟨RX3, "canBe", "()Z"⟩
abbrev cX3_weigh : ByteArray := prog_5_method_4_code
def yX3_weigh : MethodName := ⟨RX3, "weigh", "(I)V"⟩
abbrev cX3_costOf : ByteArray := prog_5_method_5_code
def yX3_costOf : MethodName := ⟨RX3, "costOf", "(I)I"⟩
abbrev cX3_costBehind : ByteArray := prog_5_method_6_code
def yX3_costBehind : MethodName := ⟨RX3, "costBehind", "(II)I"⟩
abbrev cX3_gather : ByteArray := prog_5_method_7_code
def yX3_gather : MethodName := ⟨RX3, "gather", "(I)V"⟩
abbrev cX3_follow : ByteArray := prog_5_method_8_code
def yX3_follow : MethodName := ⟨RX3, "follow", "()V"⟩
abbrev cX3_firstMove : ByteArray := prog_5_method_9_code
def yX3_firstMove : MethodName := ⟨RX3, "firstMove", "(II)I"⟩
abbrev cX3_fits : ByteArray := prog_5_method_10_code
def yX3_fits : MethodName := ⟨RX3, "fits", "(III)Z"⟩
def RX4 : String := "FuelTurns$Warning"
def TX4 : u_T := fun k => match k with
  | 0 => ("FuelTurns$Warning", "kind", "I", false)
  | 1 => ("FuelTurns$Warning", "day", "I", false)
  | 2 => ("FuelTurns$Warning", "at", "I", false)
  | 3 => ("FuelTurns$Warning", "width", "I", false)
  | 4 => ("FuelTurns$Warning", "chance", "I", false)
  | _ => ("FuelTurns$Warning", "looks", "I", false)
def tyX4 : Nat → FieldType := fun k => match k with
  | 0 => .int
  | 1 => .int
  | 2 => .int
  | 3 => .int
  | 4 => .int
  | _ => .int
abbrev wsX40 : List Cond := u_ws RX4 TX4 6
theorem nmX4 : ∀ a, a < 6 → ∀ b, b < 6 → a ≠ b → (TX4 a).2.1 ≠ (TX4 b).2.1 := by decide +kernel
theorem tyX4_ok : ∀ k, k < 6 → parseFieldDescriptor (TX4 k).2.2.1 = some (tyX4 k) := by decide +kernel
abbrev cX4_init : ByteArray := prog_6_method_1_code
def yX4_init : MethodName := ⟨RX4, "<init>", "()V"⟩
abbrev cX4_begin : ByteArray := prog_6_method_2_code
def yX4_begin : MethodName := ⟨RX4, "begin", "(IIIII)V"⟩
abbrev cX4_become : ByteArray := prog_6_method_3_code
def yX4_become : MethodName := ⟨RX4, "become", "(LFuelTurns$Warning;)V"⟩
abbrev cX4_isOneOf : ByteArray := prog_6_method_4_code
def yX4_isOneOf : MethodName := ⟨RX4, "isOneOf", "(I)Z"⟩
abbrev cX4_strikeAt : ByteArray := prog_6_method_5_code
def yX4_strikeAt : MethodName := ⟨RX4, "strikeAt", "(I)I"⟩
abbrev cX4_chanceBehind : ByteArray := prog_6_method_6_code
def yX4_chanceBehind : MethodName := ⟨RX4, "chanceBehind", "(IZ)I"⟩
abbrev cX4_chanceIfItCanBe : ByteArray := prog_6_method_7_code
def yX4_chanceIfItCanBe : MethodName := ⟨RX4, "chanceIfItCanBe", "(IZ)I"⟩
abbrev cX4_chanceToTell : ByteArray := prog_6_method_8_code
def yX4_chanceToTell : MethodName := ⟨RX4, "chanceToTell", "(I)I"⟩
def RX5 : String := "FuelTurns$World"
def TX5 : u_T := fun k => match k with
  | 0 => ("FuelTurns$World", "today", "I", false)
  | 1 => ("FuelTurns$World", "height", "I", false)
  | 2 => ("FuelTurns$World", "score", "J", false)
  | 3 => ("FuelTurns$World", "risk", "J", false)
  | 4 => ("FuelTurns$World", "plan", "[I", true)
  | 5 => ("FuelTurns$World", "warnings", "[LFuelTurns$Warning;", true)
  | 6 => ("FuelTurns$World", "warned", "I", false)
  | 7 => ("FuelTurns$World", "text", "[B", true)
  | _ => ("FuelTurns$World", "textLength", "I", false)
def tyX5 : Nat → FieldType := fun k => match k with
  | 0 => .int
  | 1 => .int
  | 2 => .long
  | 3 => .long
  | 4 => .array .int
  | 5 => .array (.object "FuelTurns$Warning")
  | 6 => .int
  | 7 => .array .byte
  | _ => .int
abbrev wsX50 : List Cond := u_ws RX5 TX5 9
theorem nmX5 : ∀ a, a < 9 → ∀ b, b < 9 → a ≠ b → (TX5 a).2.1 ≠ (TX5 b).2.1 := by decide +kernel
theorem tyX5_ok : ∀ k, k < 9 → parseFieldDescriptor (TX5 k).2.2.1 = some (tyX5 k) := by decide +kernel
abbrev cX5_init : ByteArray := prog_7_method_1_code
def yX5_init : MethodName := ⟨RX5, "<init>", "()V"⟩
abbrev cX5_become : ByteArray := prog_7_method_2_code
def yX5_become : MethodName := ⟨RX5, "become", "(LFuelTurns$World;)V"⟩
abbrev cX5_hasRule : ByteArray := prog_7_method_3_code
def yX5_hasRule : MethodName := ⟨RX5, "hasRule", "()Z"⟩
abbrev cX5_isOpen : ByteArray := prog_7_method_4_code
def yX5_isOpen : MethodName := ⟨RX5, "isOpen", "(LFuelTurns$Warning;)Z"⟩
abbrev cX5_openOnes : ByteArray := prog_7_method_5_code
def yX5_openOnes : MethodName := ⟨RX5, "openOnes", "()I"⟩
abbrev cX5_allLooks : ByteArray := prog_7_method_6_code
def yX5_allLooks : MethodName := ⟨RX5, "allLooks", "()I"⟩
abbrev cX5_nextWarned : ByteArray := prog_7_method_7_code
def yX5_nextWarned : MethodName := ⟨RX5, "nextWarned", "()I"⟩
abbrev cX5_dangerOn : ByteArray := prog_7_method_8_code
def yX5_dangerOn : MethodName := ⟨RX5, "dangerOn", "(II)I"⟩
abbrev cX5_useAt : ByteArray := prog_7_method_9_code
def yX5_useAt : MethodName := ⟨RX5, "useAt", "(I)I"⟩
abbrev cX5_worthOf : ByteArray := prog_7_method_10_code
def yX5_worthOf : MethodName := ⟨RX5, "worthOf", "(II)J"⟩
abbrev cX5_canShift : ByteArray := prog_7_method_11_code
def yX5_canShift : MethodName := ⟨RX5, "canShift", "(I)Z"⟩
abbrev cX5_shift : ByteArray := prog_7_method_12_code
def yX5_shift : MethodName := ⟨RX5, "shift", "(I)V"⟩
abbrev cX5_stepsLeft : ByteArray := prog_7_method_13_code
def yX5_stepsLeft : MethodName := ⟨RX5, "stepsLeft", "()I"⟩
abbrev cX5_endDay : ByteArray := prog_7_method_14_code
def yX5_endDay : MethodName := ⟨RX5, "endDay", "()V"⟩
abbrev cX5_moveBy : ByteArray := prog_7_method_15_code
def yX5_moveBy : MethodName := ⟨RX5, "moveBy", "(LFuelTurns$RuleReader;)I"⟩
def RX6 : String := "FuelTurns"
def TX6 : u_T := fun k => match k with
  | 0 => ("FuelTurns", "now", "LFuelTurns$World;", true)
  | 1 => ("FuelTurns", "kept", "LFuelTurns$World;", true)
  | 2 => ("FuelTurns", "trial", "LFuelTurns$World;", true)
  | 3 => ("FuelTurns", "imageKept", "Z", false)
  | 4 => ("FuelTurns", "tape", "[B", true)
  | 5 => ("FuelTurns", "tapeLength", "I", false)
  | 6 => ("FuelTurns", "sheets", "[LFuelTurns$Sheet;", true)
  | 7 => ("FuelTurns", "findings", "[I", true)
  | 8 => ("FuelTurns", "reader", "LFuelTurns$RuleReader;", true)
  | 9 => ("FuelTurns", "planner", "LFuelTurns$Planner;", true)
  | 10 => ("FuelTurns", "row", "LFuelTurns$Swarm;", true)
  | _ => ("FuelTurns", "dangers", "[I", true)
def tyX6 : Nat → FieldType := fun k => match k with
  | 0 => .object "FuelTurns$World"
  | 1 => .object "FuelTurns$World"
  | 2 => .object "FuelTurns$World"
  | 3 => .boolean
  | 4 => .array .byte
  | 5 => .int
  | 6 => .array (.object "FuelTurns$Sheet")
  | 7 => .array .int
  | 8 => .object "FuelTurns$RuleReader"
  | 9 => .object "FuelTurns$Planner"
  | 10 => .object "FuelTurns$Swarm"
  | _ => .array .int
abbrev wsX60 : List Cond := u_ws RX6 TX6 12
theorem nmX6 : ∀ a, a < 12 → ∀ b, b < 12 → a ≠ b → (TX6 a).2.1 ≠ (TX6 b).2.1 := by decide +kernel
theorem tyX6_ok : ∀ k, k < 12 → parseFieldDescriptor (TX6 k).2.2.1 = some (tyX6 k) := by decide +kernel
abbrev cX6_init : ByteArray := prog_1_method_1_code
def yX6_init : MethodName := ⟨RX6, "<init>", "()V"⟩
abbrev cX6_plan : ByteArray := prog_1_method_2_code
def yX6_plan : MethodName := ⟨RX6, "plan", "(II)I"⟩
abbrev cX6_move : ByteArray := prog_1_method_3_code
def yX6_move : MethodName := ⟨RX6, "move", "(I)I"⟩
abbrev cX6_may : ByteArray := prog_1_method_4_code
def yX6_may : MethodName := ⟨RX6, "may", "(I)I"⟩
abbrev cX6_days : ByteArray := prog_1_method_5_code
def yX6_days : MethodName := ⟨RX6, "days", "(I)I"⟩
abbrev cX6_runs : ByteArray := prog_1_method_6_code
def yX6_runs : MethodName := ⟨RX6, "runs", "(I)I"⟩
abbrev cX6_thing : ByteArray := prog_1_method_7_code
def yX6_thing : MethodName := ⟨RX6, "thing", "(I)J"⟩
abbrev cX6_warn : ByteArray := prog_1_method_8_code
def yX6_warn : MethodName := ⟨RX6, "warn", "(III)I"⟩
abbrev cX6_of : ByteArray := prog_1_method_9_code
def yX6_of : MethodName := ⟨RX6, "of", "(II)I"⟩
abbrev cX6_as : ByteArray := prog_1_method_10_code
def yX6_as : MethodName := ⟨RX6, "as", "(II)I"⟩
abbrev cX6_struck : ByteArray := prog_1_method_11_code
def yX6_struck : MethodName := ⟨RX6, "struck", "(II)I"⟩
abbrev cX6_look : ByteArray := prog_1_method_12_code
def yX6_look : MethodName := ⟨RX6, "look", "(IIZ)I"⟩
abbrev cX6_think : ByteArray := prog_1_method_13_code
def yX6_think : MethodName := ⟨RX6, "think", "(IIZ)I"⟩
abbrev cX6_danger : ByteArray := prog_1_method_14_code
def yX6_danger : MethodName := ⟨RX6, "danger", "(II)I"⟩
abbrev cX6_safest : ByteArray := prog_1_method_15_code
def yX6_safest : MethodName := ⟨RX6, "safest", "(I)I"⟩
abbrev cX6_open : ByteArray := prog_1_method_16_code
def yX6_open : MethodName := ⟨RX6, "open", "()I"⟩
abbrev cX6_feed : ByteArray := prog_1_method_17_code
def yX6_feed : MethodName := ⟨RX6, "feed", "(II)I"⟩
abbrev cX6_wipe : ByteArray := prog_1_method_18_code
def yX6_wipe : MethodName := ⟨RX6, "wipe", "()I"⟩
abbrev cX6_rule : ByteArray := prog_1_method_19_code
def yX6_rule : MethodName := ⟨RX6, "rule", "()I"⟩
abbrev cX6_drift : ByteArray := prog_1_method_20_code
def yX6_drift : MethodName := ⟨RX6, "drift", "()I"⟩
abbrev cX6_says : ByteArray := prog_1_method_21_code
def yX6_says : MethodName := ⟨RX6, "says", "(I)I"⟩
abbrev cX6_best : ByteArray := prog_1_method_22_code
def yX6_best : MethodName := ⟨RX6, "best", "(II)J"⟩
abbrev cX6_turn : ByteArray := prog_1_method_23_code
def yX6_turn : MethodName := ⟨RX6, "turn", "(II)I"⟩
abbrev cX6_rest : ByteArray := prog_1_method_24_code
def yX6_rest : MethodName := ⟨RX6, "rest", "(I)J"⟩
abbrev cX6_home : ByteArray := prog_1_method_25_code
def yX6_home : MethodName := ⟨RX6, "home", "(II)I"⟩
abbrev cX6_know : ByteArray := prog_1_method_26_code
def yX6_know : MethodName := ⟨RX6, "know", "(III)J"⟩
abbrev cX6_life : ByteArray := prog_1_method_27_code
def yX6_life : MethodName := ⟨RX6, "life", "(II)I"⟩
abbrev cX6_lives : ByteArray := prog_1_method_28_code
def yX6_lives : MethodName := ⟨RX6, "lives", "(III)I"⟩
abbrev cX6_rests : ByteArray := prog_1_method_29_code
def yX6_rests : MethodName := ⟨RX6, "rests", "(I)I"⟩
abbrev cX6_both : ByteArray := prog_1_method_30_code
def yX6_both : MethodName := ⟨RX6, "both", "(II)I"⟩
abbrev cX6_swarm : ByteArray := prog_1_method_31_code
def yX6_swarm : MethodName := ⟨RX6, "swarm", "(IIII)I"⟩
abbrev cX6_sheet : ByteArray := prog_1_method_32_code
def yX6_sheet : MethodName := ⟨RX6, "sheet", "(III)I"⟩
abbrev cX6_write : ByteArray := prog_1_method_33_code
def yX6_write : MethodName := ⟨RX6, "write", "(IIJ)J"⟩
abbrev cX6_copy : ByteArray := prog_1_method_34_code
def yX6_copy : MethodName := ⟨RX6, "copy", "(IIIII)I"⟩
abbrev cX6_turns : ByteArray := prog_1_method_35_code
def yX6_turns : MethodName := ⟨RX6, "turns", "(I)I"⟩
abbrev cX6_read : ByteArray := prog_1_method_36_code
def yX6_read : MethodName := ⟨RX6, "read", "(I)I"⟩
abbrev cX6_image : ByteArray := prog_1_method_37_code
def yX6_image : MethodName := ⟨RX6, "image", "()I"⟩
abbrev cX6_undo : ByteArray := prog_1_method_38_code
def yX6_undo : MethodName := ⟨RX6, "undo", "()I"⟩
abbrev cX6_tear : ByteArray := prog_1_method_39_code
def yX6_tear : MethodName := ⟨RX6, "tear", "()I"⟩
abbrev cX6_count : ByteArray := prog_1_method_40_code
def yX6_count : MethodName := ⟨RX6, "count", "(I)I"⟩
abbrev cX6_status : ByteArray := prog_1_method_41_code
def yX6_status : MethodName := ⟨RX6, "status", "(I)I"⟩
abbrev cX6_finding : ByteArray := prog_1_method_42_code
def yX6_finding : MethodName := ⟨RX6, "finding", "(I)I"⟩
abbrev cX6_isOutside : ByteArray := prog_1_method_43_code
def yX6_isOutside : MethodName := ⟨RX6, "isOutside", "(III)Z"⟩
abbrev cX6_isNoMove : ByteArray := prog_1_method_44_code
def yX6_isNoMove : MethodName := ⟨RX6, "isNoMove", "(I)Z"⟩
abbrev cX6_isNoHeight : ByteArray := prog_1_method_45_code
def yX6_isNoHeight : MethodName := ⟨RX6, "isNoHeight", "(I)Z"⟩
abbrev cX6_isNoSureness : ByteArray := prog_1_method_46_code
def yX6_isNoSureness : MethodName := ⟨RX6, "isNoSureness", "(I)Z"⟩
abbrev cX6_isNoSheet : ByteArray := prog_1_method_47_code
def yX6_isNoSheet : MethodName := ⟨RX6, "isNoSheet", "(I)Z"⟩
abbrev cX6_isNoWarning : ByteArray := prog_1_method_48_code
def yX6_isNoWarning : MethodName := ⟨RX6, "isNoWarning", "(I)Z"⟩
abbrev cX6_findingOfSheet : ByteArray := prog_1_method_49_code
def yX6_findingOfSheet : MethodName := ⟨RX6, "findingOfSheet", "(I)I"⟩
abbrev cX6_findingOfPair : ByteArray := prog_1_method_50_code
def yX6_findingOfPair : MethodName := ⟨RX6, "findingOfPair", "(I)I"⟩
abbrev cX6_findingOfRow : ByteArray := prog_1_method_51_code
def yX6_findingOfRow : MethodName := ⟨RX6, "findingOfRow", "(LFuelTurns$Sheet;)I"⟩
abbrev cX6_firstCalm : ByteArray := prog_1_method_52_code
def yX6_firstCalm : MethodName := ⟨RX6, "firstCalm", "(II)I"⟩
abbrev cX6_foresee : ByteArray := prog_1_method_53_code
def yX6_foresee : MethodName := ⟨RX6, "foresee", "(I)V"⟩
abbrev cX6_dayOfStrike : ByteArray := prog_1_method_54_code
def yX6_dayOfStrike : MethodName := ⟨RX6, "dayOfStrike", "(II)I"⟩
abbrev cX6_restsOf : ByteArray := prog_1_method_55_code
def yX6_restsOf : MethodName := ⟨RX6, "restsOf", "([J)I"⟩
abbrev cX6_mostTogether : ByteArray := prog_1_method_56_code
def yX6_mostTogether : MethodName := ⟨RX6, "mostTogether", "([JI)I"⟩
def RX7 : String := "FuelTurnsModel"
def TX7 : u_T := fun k => match k with
  | 0 => ("FuelTurnsModel", "s", "[J", true)
  | 1 => ("FuelTurnsModel", "kept", "[J", true)
  | 2 => ("FuelTurnsModel", "isKept", "Z", false)
  | 3 => ("FuelTurnsModel", "findings", "[I", true)
  | 4 => ("FuelTurnsModel", "tape", "[I", true)
  | 5 => ("FuelTurnsModel", "taped", "I", false)
  | 6 => ("FuelTurnsModel", "at", "I", false)
  | 7 => ("FuelTurnsModel", "opened", "I", false)
  | 8 => ("FuelTurnsModel", "many", "I", false)
  | 9 => ("FuelTurnsModel", "step", "[I", true)
  | 10 => ("FuelTurnsModel", "named", "[I", true)
  | 11 => ("FuelTurnsModel", "pile", "[I", true)
  | 12 => ("FuelTurnsModel", "worth", "[J", true)
  | 13 => ("FuelTurnsModel", "takes", "[I", true)
  | 14 => ("FuelTurnsModel", "moves", "[I", true)
  | 15 => ("FuelTurnsModel", "dayAt", "[J", true)
  | 16 => ("FuelTurnsModel", "isHit", "Z", false)
  | 17 => ("FuelTurnsModel", "bits", "[I", true)
  | 18 => ("FuelTurnsModel", "sizes", "[I", true)
  | 19 => ("FuelTurnsModel", "number", "[J", true)
  | 20 => ("FuelTurnsModel", "carried", "[J", true)
  | 21 => ("FuelTurnsModel", "moved", "[I", true)
  | _ => ("FuelTurnsModel", "nextOne", "[I", true)
def tyX7 : Nat → FieldType := fun k => match k with
  | 0 => .array .long
  | 1 => .array .long
  | 2 => .boolean
  | 3 => .array .int
  | 4 => .array .int
  | 5 => .int
  | 6 => .int
  | 7 => .int
  | 8 => .int
  | 9 => .array .int
  | 10 => .array .int
  | 11 => .array .int
  | 12 => .array .long
  | 13 => .array .int
  | 14 => .array .int
  | 15 => .array .long
  | 16 => .boolean
  | 17 => .array .int
  | 18 => .array .int
  | 19 => .array .long
  | 20 => .array .long
  | 21 => .array .int
  | _ => .array .int
abbrev wsX70 : List Cond := u_ws RX7 TX7 23
theorem nmX7 : ∀ a, a < 23 → ∀ b, b < 23 → a ≠ b → (TX7 a).2.1 ≠ (TX7 b).2.1 := by decide +kernel
theorem tyX7_ok : ∀ k, k < 23 → parseFieldDescriptor (TX7 k).2.2.1 = some (tyX7 k) := by decide +kernel
abbrev cX7_init : ByteArray := prog_9_method_1_code
def yX7_init : MethodName := ⟨RX7, "<init>", "()V"⟩
abbrev cX7_finding : ByteArray := prog_9_method_2_code
def yX7_finding : MethodName := ⟨RX7, "finding", "(I)I"⟩
abbrev cX7_in : ByteArray := prog_9_method_3_code
def yX7_in : MethodName := ⟨RX7, "in", "(JJJ)Z"⟩
abbrev cX7_size : ByteArray := prog_9_method_4_code
def yX7_size : MethodName := ⟨RX7, "size", "(I)I"⟩
abbrev cX7_its : ByteArray := prog_9_method_5_code
def yX7_its : MethodName := ⟨RX7, "its", "(I)I"⟩
abbrev cX7_today : ByteArray := prog_9_method_6_code
def yX7_today : MethodName := ⟨RX7, "today", "()I"⟩
abbrev cX7_height : ByteArray := prog_9_method_7_code
def yX7_height : MethodName := ⟨RX7, "height", "()I"⟩
abbrev cX7_fuel : ByteArray := prog_9_method_8_code
def yX7_fuel : MethodName := ⟨RX7, "fuel", "()I"⟩
abbrev cX7_mostOf : ByteArray := prog_9_method_9_code
def yX7_mostOf : MethodName := ⟨RX7, "mostOf", "(I)J"⟩
abbrev cX7_plan : ByteArray := prog_9_method_10_code
def yX7_plan : MethodName := ⟨RX7, "plan", "(II)I"⟩
abbrev cX7_can : ByteArray := prog_9_method_11_code
def yX7_can : MethodName := ⟨RX7, "can", "(III)Z"⟩
abbrev cX7_isMove : ByteArray := prog_9_method_12_code
def yX7_isMove : MethodName := ⟨RX7, "isMove", "(J)Z"⟩
abbrev cX7_goes : ByteArray := prog_9_method_13_code
def yX7_goes : MethodName := ⟨RX7, "goes", "(I)V"⟩
abbrev cX7_move : ByteArray := prog_9_method_14_code
def yX7_move : MethodName := ⟨RX7, "move", "(I)I"⟩
abbrev cX7_may : ByteArray := prog_9_method_15_code
def yX7_may : MethodName := ⟨RX7, "may", "(I)I"⟩
abbrev cX7_useAt : ByteArray := prog_9_method_16_code
def yX7_useAt : MethodName := ⟨RX7, "useAt", "(I)J"⟩
abbrev cX7_ends : ByteArray := prog_9_method_17_code
def yX7_ends : MethodName := ⟨RX7, "ends", "()V"⟩
abbrev cX7_go : ByteArray := prog_9_method_18_code
def yX7_go : MethodName := ⟨RX7, "go", "(IZ)I"⟩
abbrev cX7_days : ByteArray := prog_9_method_19_code
def yX7_days : MethodName := ⟨RX7, "days", "(I)I"⟩
abbrev cX7_runs : ByteArray := prog_9_method_20_code
def yX7_runs : MethodName := ⟨RX7, "runs", "(I)I"⟩
abbrev cX7_thing : ByteArray := prog_9_method_21_code
def yX7_thing : MethodName := ⟨RX7, "thing", "(I)J"⟩
abbrev cX7_isWarning : ByteArray := prog_9_method_22_code
def yX7_isWarning : MethodName := ⟨RX7, "isWarning", "(I)Z"⟩
abbrev cX7_of1 : ByteArray := prog_9_method_23_code
def yX7_of1 : MethodName := ⟨RX7, "of1", "(II)I"⟩
abbrev cX7_isOpen : ByteArray := prog_9_method_24_code
def yX7_isOpen : MethodName := ⟨RX7, "isOpen", "(II)Z"⟩
abbrev cX7_warn : ByteArray := prog_9_method_25_code
def yX7_warn : MethodName := ⟨RX7, "warn", "(III)I"⟩
abbrev cX7_of : ByteArray := prog_9_method_26_code
def yX7_of : MethodName := ⟨RX7, "of", "(II)I"⟩
abbrev cX7_as : ByteArray := prog_9_method_27_code
def yX7_as : MethodName := ⟨RX7, "as", "(II)I"⟩
abbrev cX7_plain : ByteArray := prog_9_method_28_code
def yX7_plain : MethodName := ⟨RX7, "plain", "(III)I"⟩
abbrev cX7_close : ByteArray := prog_9_method_29_code
def yX7_close : MethodName := ⟨RX7, "close", "(I)I"⟩
abbrev cX7_struckBy : ByteArray := prog_9_method_30_code
def yX7_struckBy : MethodName := ⟨RX7, "struckBy", "(II)I"⟩
abbrev cX7_isHeight : ByteArray := prog_9_method_31_code
def yX7_isHeight : MethodName := ⟨RX7, "isHeight", "(I)Z"⟩
abbrev cX7_struck : ByteArray := prog_9_method_32_code
def yX7_struck : MethodName := ⟨RX7, "struck", "(II)I"⟩
abbrev cX7_behind : ByteArray := prog_9_method_33_code
def yX7_behind : MethodName := ⟨RX7, "behind", "(IIZ)I"⟩
abbrev cX7_looks : ByteArray := prog_9_method_34_code
def yX7_looks : MethodName := ⟨RX7, "looks", "(IIZZ)I"⟩
abbrev cX7_look : ByteArray := prog_9_method_35_code
def yX7_look : MethodName := ⟨RX7, "look", "(IIZ)I"⟩
abbrev cX7_think : ByteArray := prog_9_method_36_code
def yX7_think : MethodName := ⟨RX7, "think", "(IIZ)I"⟩
abbrev cX7_dangerAt : ByteArray := prog_9_method_37_code
def yX7_dangerAt : MethodName := ⟨RX7, "dangerAt", "(II)I"⟩
abbrev cX7_isDay : ByteArray := prog_9_method_38_code
def yX7_isDay : MethodName := ⟨RX7, "isDay", "(I)Z"⟩
abbrev cX7_danger : ByteArray := prog_9_method_39_code
def yX7_danger : MethodName := ⟨RX7, "danger", "(II)I"⟩
abbrev cX7_safest : ByteArray := prog_9_method_40_code
def yX7_safest : MethodName := ⟨RX7, "safest", "(I)I"⟩
abbrev cX7_open : ByteArray := prog_9_method_41_code
def yX7_open : MethodName := ⟨RX7, "open", "()I"⟩
abbrev cX7_feed : ByteArray := prog_9_method_42_code
def yX7_feed : MethodName := ⟨RX7, "feed", "(II)I"⟩
abbrev cX7_wipe : ByteArray := prog_9_method_43_code
def yX7_wipe : MethodName := ⟨RX7, "wipe", "()I"⟩
abbrev cX7_here : ByteArray := prog_9_method_44_code
def yX7_here : MethodName := ⟨RX7, "here", "()I"⟩
abbrev cX7_takes : ByteArray := prog_9_method_45_code
def yX7_takes : MethodName := ⟨RX7, "takes", "(I)Z"⟩
abbrev cX7_lays : ByteArray := prog_9_method_46_code
def yX7_lays : MethodName := ⟨RX7, "lays", "(II)V"⟩
abbrev cX7_whole : ByteArray := prog_9_method_47_code
def yX7_whole : MethodName := ⟨RX7, "whole", "()Z"⟩
abbrev cX7_isCompare : ByteArray := prog_9_method_48_code
def yX7_isCompare : MethodName := ⟨RX7, "isCompare", "()Z"⟩
abbrev cX7_condition : ByteArray := prog_9_method_49_code
def yX7_condition : MethodName := ⟨RX7, "condition", "()Z"⟩
abbrev cX7_compared : ByteArray := prog_9_method_50_code
def yX7_compared : MethodName := ⟨RX7, "compared", "()Z"⟩
abbrev cX7_sum : ByteArray := prog_9_method_51_code
def yX7_sum : MethodName := ⟨RX7, "sum", "()Z"⟩
abbrev cX7_isName : ByteArray := prog_9_method_52_code
def yX7_isName : MethodName := ⟨RX7, "isName", "(I)Z"⟩
abbrev cX7_opens : ByteArray := prog_9_method_53_code
def yX7_opens : MethodName := ⟨RX7, "opens", "()Z"⟩
abbrev cX7_part : ByteArray := prog_9_method_54_code
def yX7_part : MethodName := ⟨RX7, "part", "()Z"⟩
abbrev cX7_rule : ByteArray := prog_9_method_55_code
def yX7_rule : MethodName := ⟨RX7, "rule", "()I"⟩
abbrev cX7_drift : ByteArray := prog_9_method_56_code
def yX7_drift : MethodName := ⟨RX7, "drift", "()I"⟩
abbrev cX7_joined : ByteArray := prog_9_method_57_code
def yX7_joined : MethodName := ⟨RX7, "joined", "(III)I"⟩
abbrev cX7_nextDay : ByteArray := prog_9_method_58_code
def yX7_nextDay : MethodName := ⟨RX7, "nextDay", "(I)I"⟩
abbrev cX7_openMany : ByteArray := prog_9_method_59_code
def yX7_openMany : MethodName := ⟨RX7, "openMany", "(I)I"⟩
abbrev cX7_told : ByteArray := prog_9_method_60_code
def yX7_told : MethodName := ⟨RX7, "told", "(III)I"⟩
abbrev cX7_movesBy : ByteArray := prog_9_method_61_code
def yX7_movesBy : MethodName := ⟨RX7, "movesBy", "(III)I"⟩
abbrev cX7_says : ByteArray := prog_9_method_62_code
def yX7_says : MethodName := ⟨RX7, "says", "(I)I"⟩
abbrev cX7_place : ByteArray := prog_9_method_63_code
def yX7_place : MethodName := ⟨RX7, "place", "(III)I"⟩
abbrev cX7_dayWorth : ByteArray := prog_9_method_64_code
def yX7_dayWorth : MethodName := ⟨RX7, "dayWorth", "(II)J"⟩
abbrev cX7_moveAt : ByteArray := prog_9_method_65_code
def yX7_moveAt : MethodName := ⟨RX7, "moveAt", "(I)I"⟩
abbrev cX7_findBest : ByteArray := prog_9_method_66_code
def yX7_findBest : MethodName := ⟨RX7, "findBest", "(I)V"⟩
abbrev cX7_findOne : ByteArray := prog_9_method_67_code
def yX7_findOne : MethodName := ⟨RX7, "findOne", "(III)V"⟩
abbrev cX7_bestWorth : ByteArray := prog_9_method_68_code
def yX7_bestWorth : MethodName := ⟨RX7, "bestWorth", "(I)J"⟩
abbrev cX7_moveOf : ByteArray := prog_9_method_69_code
def yX7_moveOf : MethodName := ⟨RX7, "moveOf", "(II)I"⟩
abbrev cX7_isAhead : ByteArray := prog_9_method_70_code
def yX7_isAhead : MethodName := ⟨RX7, "isAhead", "(I)Z"⟩
abbrev cX7_best : ByteArray := prog_9_method_71_code
def yX7_best : MethodName := ⟨RX7, "best", "(II)J"⟩
abbrev cX7_turn : ByteArray := prog_9_method_72_code
def yX7_turn : MethodName := ⟨RX7, "turn", "(II)I"⟩
abbrev cX7_rest : ByteArray := prog_9_method_73_code
def yX7_rest : MethodName := ⟨RX7, "rest", "(I)J"⟩
abbrev cX7_home : ByteArray := prog_9_method_74_code
def yX7_home : MethodName := ⟨RX7, "home", "(II)I"⟩
abbrev cX7_worthBehind : ByteArray := prog_9_method_75_code
def yX7_worthBehind : MethodName := ⟨RX7, "worthBehind", "(III)J"⟩
abbrev cX7_know : ByteArray := prog_9_method_76_code
def yX7_know : MethodName := ⟨RX7, "know", "(III)J"⟩
abbrev cX7_lasts : ByteArray := prog_9_method_77_code
def yX7_lasts : MethodName := ⟨RX7, "lasts", "(II)I"⟩
abbrev cX7_life : ByteArray := prog_9_method_78_code
def yX7_life : MethodName := ⟨RX7, "life", "(II)I"⟩
abbrev cX7_lives : ByteArray := prog_9_method_79_code
def yX7_lives : MethodName := ⟨RX7, "lives", "(III)I"⟩
abbrev cX7_isSheet : ByteArray := prog_9_method_80_code
def yX7_isSheet : MethodName := ⟨RX7, "isSheet", "(I)Z"⟩
abbrev cX7_numberOf : ByteArray := prog_9_method_81_code
def yX7_numberOf : MethodName := ⟨RX7, "numberOf", "(II)J"⟩
abbrev cX7_hinders : ByteArray := prog_9_method_82_code
def yX7_hinders : MethodName := ⟨RX7, "hinders", "(IIIJ)I"⟩
abbrev cX7_isRest : ByteArray := prog_9_method_83_code
def yX7_isRest : MethodName := ⟨RX7, "isRest", "(II)Z"⟩
abbrev cX7_rests : ByteArray := prog_9_method_84_code
def yX7_rests : MethodName := ⟨RX7, "rests", "(I)I"⟩
abbrev cX7_both : ByteArray := prog_9_method_85_code
def yX7_both : MethodName := ⟨RX7, "both", "(II)I"⟩
abbrev cX7_heightOf : ByteArray := prog_9_method_86_code
def yX7_heightOf : MethodName := ⟨RX7, "heightOf", "(III)I"⟩
abbrev cX7_findSwarm : ByteArray := prog_9_method_87_code
def yX7_findSwarm : MethodName := ⟨RX7, "findSwarm", "(III)V"⟩
abbrev cX7_swarm : ByteArray := prog_9_method_88_code
def yX7_swarm : MethodName := ⟨RX7, "swarm", "(IIII)I"⟩
abbrev cX7_sheet : ByteArray := prog_9_method_89_code
def yX7_sheet : MethodName := ⟨RX7, "sheet", "(III)I"⟩
abbrev cX7_write : ByteArray := prog_9_method_90_code
def yX7_write : MethodName := ⟨RX7, "write", "(IIJ)J"⟩
abbrev cX7_copy : ByteArray := prog_9_method_91_code
def yX7_copy : MethodName := ⟨RX7, "copy", "(IIIII)I"⟩
abbrev cX7_lacks : ByteArray := prog_9_method_92_code
def yX7_lacks : MethodName := ⟨RX7, "lacks", "(I)I"⟩
abbrev cX7_turns : ByteArray := prog_9_method_93_code
def yX7_turns : MethodName := ⟨RX7, "turns", "(I)I"⟩
abbrev cX7_read : ByteArray := prog_9_method_94_code
def yX7_read : MethodName := ⟨RX7, "read", "(I)I"⟩
abbrev cX7_image : ByteArray := prog_9_method_95_code
def yX7_image : MethodName := ⟨RX7, "image", "()I"⟩
abbrev cX7_undo : ByteArray := prog_9_method_96_code
def yX7_undo : MethodName := ⟨RX7, "undo", "()I"⟩
abbrev cX7_tear : ByteArray := prog_9_method_97_code
def yX7_tear : MethodName := ⟨RX7, "tear", "()I"⟩
abbrev cX7_count : ByteArray := prog_9_method_98_code
def yX7_count : MethodName := ⟨RX7, "count", "(I)I"⟩
abbrev cX7_status : ByteArray := prog_9_method_99_code
def yX7_status : MethodName := ⟨RX7, "status", "(I)I"⟩
def RJ9 : String := "java/lang/Math"
def TJ9 : u_T := fun k => match k with
  | _ => ("", "", "", false)
def tyJ9 : Nat → FieldType := fun k => match k with
  | _ => .int
theorem nmJ9 : ∀ a, a < 0 → ∀ b, b < 0 → a ≠ b → (TJ9 a).2.1 ≠ (TJ9 b).2.1 := by decide +kernel
theorem tyJ9_ok : ∀ k, k < 0 → parseFieldDescriptor (TJ9 k).2.2.1 = some (tyJ9 k) := by decide +kernel
abbrev cJ9_abs_0f7a4 : ByteArray := prog_10_method_59_code
def yJ9_abs_0f7a4 : MethodName := ⟨RJ9, "abs", "(I)I"⟩
abbrev cJ9_max_7cf53 : ByteArray := prog_10_method_65_code
def yJ9_max_7cf53 : MethodName := ⟨RJ9, "max", "(II)I"⟩
abbrev cJ9_max_f86c9 : ByteArray := prog_10_method_66_code
def yJ9_max_f86c9 : MethodName := ⟨RJ9, "max", "(JJ)J"⟩
abbrev cJ9_min_7cf53 : ByteArray := prog_10_method_69_code
def yJ9_min_7cf53 : MethodName := ⟨RJ9, "min", "(II)I"⟩
def RJ10 : String := "java/lang/System"
def TJ10 : u_T := fun k => match k with
  | _ => ("", "", "", false)
def tyJ10 : Nat → FieldType := fun k => match k with
  | _ => .int
theorem nmJ10 : ∀ a, a < 0 → ∀ b, b < 0 → a ≠ b → (TJ10 a).2.1 ≠ (TJ10 b).2.1 := by decide +kernel
theorem tyJ10_ok : ∀ k, k < 0 → parseFieldDescriptor (TJ10 k).2.2.1 = some (tyJ10 k) := by decide +kernel
def RL : String := "FuelTurnsLaw"
abbrev cL_law : ByteArray := code
def yL_law : MethodName := ⟨RL, "law", "([I)Z"⟩
abbrev vwCl : List vw_C := [(RX0, TX0, 8), (RX1, TX1, 16), (RX2, TX2, 3), (RX3, TX3, 11), (RX4, TX4, 6), (RX5, TX5, 9), (RX6, TX6, 12), (RX7, TX7, 23)]
set_option maxRecDepth 20000 in
theorem inX0 : ∀ w ∈ wsX00, w ∈ lw_tbl := by decide +kernel
set_option maxRecDepth 20000 in
theorem inX1 : ∀ w ∈ wsX10, w ∈ lw_tbl := by decide +kernel
set_option maxRecDepth 20000 in
theorem inX2 : ∀ w ∈ wsX20, w ∈ lw_tbl := by decide +kernel
set_option maxRecDepth 20000 in
theorem inX3 : ∀ w ∈ wsX30, w ∈ lw_tbl := by decide +kernel
set_option maxRecDepth 20000 in
theorem inX4 : ∀ w ∈ wsX40, w ∈ lw_tbl := by decide +kernel
set_option maxRecDepth 20000 in
theorem inX5 : ∀ w ∈ wsX50, w ∈ lw_tbl := by decide +kernel
set_option maxRecDepth 20000 in
theorem inX6 : ∀ w ∈ wsX60, w ∈ lw_tbl := by decide +kernel
set_option maxRecDepth 20000 in
theorem inX7 : ∀ w ∈ wsX70, w ∈ lw_tbl := by decide +kernel
end
section
theorem dX0_init_0 : decode cX0_init 0 = .ok (.aload_n 0, 1) := by decide +kernel
theorem dX0_init_1 : decode cX0_init 1 = .ok (.invokespecial 3, 3) := by decide +kernel
theorem dX0_init_4 : decode cX0_init 4 = .ok (.aload_n 0, 1) := by decide +kernel
theorem dX0_init_5 : decode cX0_init 5 = .ok (.sipush 200, 3) := by decide +kernel
theorem dX0_init_8 : decode cX0_init 8 = .ok (.newarray .long, 2) := by decide +kernel
theorem dX0_init_10 : decode cX0_init 10 = .ok (.putfield 9, 3) := by decide +kernel
theorem dX0_init_13 : decode cX0_init 13 = .ok (.aload_n 0, 1) := by decide +kernel
theorem dX0_init_14 : decode cX0_init 14 = .ok (.sipush 12200, 3) := by decide +kernel
theorem dX0_init_17 : decode cX0_init 17 = .ok (.newarray .long, 2) := by decide +kernel
theorem dX0_init_19 : decode cX0_init 19 = .ok (.putfield 15, 3) := by decide +kernel
theorem dX0_init_22 : decode cX0_init 22 = .ok (.aload_n 0, 1) := by decide +kernel
theorem dX0_init_23 : decode cX0_init 23 = .ok (.iconst 0, 1) := by decide +kernel
theorem dX0_init_24 : decode cX0_init 24 = .ok (.putfield 18, 3) := by decide +kernel
theorem dX0_init_27 : decode cX0_init 27 = .ok (.aload_n 0, 1) := by decide +kernel
theorem dX0_init_28 : decode cX0_init 28 = .ok (.iconst 0, 1) := by decide +kernel
theorem dX0_init_29 : decode cX0_init 29 = .ok (.putfield 22, 3) := by decide +kernel
theorem dX0_init_32 : decode cX0_init 32 = .ok (.aload_n 0, 1) := by decide +kernel
theorem dX0_init_33 : decode cX0_init 33 = .ok (.bipush 8, 2) := by decide +kernel
theorem dX0_init_35 : decode cX0_init 35 = .ok (.newarray .int, 2) := by decide +kernel
theorem dX0_init_37 : decode cX0_init 37 = .ok (.putfield 25, 3) := by decide +kernel
theorem dX0_init_40 : decode cX0_init 40 = .ok (.aload_n 0, 1) := by decide +kernel
theorem dX0_init_41 : decode cX0_init 41 = .ok (.lconst 0, 1) := by decide +kernel
theorem dX0_init_42 : decode cX0_init 42 = .ok (.putfield 29, 3) := by decide +kernel
theorem dX0_init_45 : decode cX0_init 45 = .ok (.aload_n 0, 1) := by decide +kernel
theorem dX0_init_46 : decode cX0_init 46 = .ok (.iconst 0, 1) := by decide +kernel
theorem dX0_init_47 : decode cX0_init 47 = .ok (.putfield 33, 3) := by decide +kernel
theorem dX0_init_50 : decode cX0_init 50 = .ok (.aload_n 0, 1) := by decide +kernel
theorem dX0_init_51 : decode cX0_init 51 = .ok (.iconst 0, 1) := by decide +kernel
theorem dX0_init_52 : decode cX0_init 52 = .ok (.putfield 36, 3) := by decide +kernel
theorem dX0_init_55 : decode cX0_init 55 = .ok (.return_, 1) := by decide +kernel
theorem dX0_make_0 : decode cX0_make 0 = .ok (.aload_n 0, 1) := by decide +kernel
theorem dX0_make_1 : decode cX0_make 1 = .ok (.iload_n 2, 1) := by decide +kernel
theorem dX0_make_2 : decode cX0_make 2 = .ok (.bipush 8, 2) := by decide +kernel
theorem dX0_make_4 : decode cX0_make 4 = .ok (.invokestatic 39, 3) := by decide +kernel
theorem dX0_make_7 : decode cX0_make 7 = .ok (.putfield 18, 3) := by decide +kernel
theorem dX0_make_10 : decode cX0_make 10 = .ok (.aload_n 0, 1) := by decide +kernel
theorem dX0_make_11 : decode cX0_make 11 = .ok (.aload_n 1, 1) := by decide +kernel
theorem dX0_make_12 : decode cX0_make 12 = .ok (.invokevirtual 45, 3) := by decide +kernel
theorem dX0_make_15 : decode cX0_make 15 = .ok (.bipush 60, 2) := by decide +kernel
theorem dX0_make_17 : decode cX0_make 17 = .ok (.invokestatic 39, 3) := by decide +kernel
theorem dX0_make_20 : decode cX0_make 20 = .ok (.putfield 22, 3) := by decide +kernel
theorem dX0_make_23 : decode cX0_make 23 = .ok (.aload_n 0, 1) := by decide +kernel
theorem dX0_make_24 : decode cX0_make 24 = .ok (.getfield 18, 3) := by decide +kernel
theorem dX0_make_27 : decode cX0_make 27 = .ok (.iconst 1, 1) := by decide +kernel
theorem dX0_make_28 : decode cX0_make 28 = .ok (.isub, 1) := by decide +kernel
theorem dX0_make_29 : decode cX0_make 29 = .ok (.istore_n 3, 1) := by decide +kernel
theorem dX0_make_30 : decode cX0_make 30 = .ok (.iload_n 3, 1) := by decide +kernel
theorem dX0_make_31 : decode cX0_make 31 = .ok (.ifCond .lt 20, 3) := by decide +kernel
theorem dX0_make_34 : decode cX0_make 34 = .ok (.aload_n 0, 1) := by decide +kernel
theorem dX0_make_35 : decode cX0_make 35 = .ok (.aload_n 1, 1) := by decide +kernel
theorem dX0_make_36 : decode cX0_make 36 = .ok (.iload_n 3, 1) := by decide +kernel
theorem dX0_make_37 : decode cX0_make 37 = .ok (.invokevirtual 51, 3) := by decide +kernel
theorem dX0_make_40 : decode cX0_make 40 = .ok (.aload_n 0, 1) := by decide +kernel
theorem dX0_make_41 : decode cX0_make 41 = .ok (.iload_n 3, 1) := by decide +kernel
theorem dX0_make_42 : decode cX0_make 42 = .ok (.invokevirtual 55, 3) := by decide +kernel
theorem dX0_make_45 : decode cX0_make 45 = .ok (.iinc 3 (-1), 3) := by decide +kernel
theorem dX0_make_48 : decode cX0_make 48 = .ok (.goto (-18), 3) := by decide +kernel
theorem dX0_make_51 : decode cX0_make 51 = .ok (.aload_n 0, 1) := by decide +kernel
theorem dX0_make_52 : decode cX0_make 52 = .ok (.aload_n 1, 1) := by decide +kernel
theorem dX0_make_53 : decode cX0_make 53 = .ok (.getfield 59, 3) := by decide +kernel
theorem dX0_make_56 : decode cX0_make 56 = .ok (.bipush 12, 2) := by decide +kernel
theorem dX0_make_58 : decode cX0_make 58 = .ok (.iadd, 1) := by decide +kernel
theorem dX0_make_59 : decode cX0_make 59 = .ok (.invokevirtual 62, 3) := by decide +kernel
theorem dX0_make_62 : decode cX0_make 62 = .ok (.aload_n 0, 1) := by decide +kernel
theorem dX0_make_63 : decode cX0_make 63 = .ok (.getfield 29, 3) := by decide +kernel
theorem dX0_make_66 : decode cX0_make 66 = .ok (.lreturn, 1) := by decide +kernel
theorem dX0_stay_0 : decode cX0_stay 0 = .ok (.iconst 0, 1) := by decide +kernel
theorem dX0_stay_1 : decode cX0_stay 1 = .ok (.istore_n 3, 1) := by decide +kernel
theorem dX0_stay_2 : decode cX0_stay 2 = .ok (.iload_n 3, 1) := by decide +kernel
theorem dX0_stay_3 : decode cX0_stay 3 = .ok (.bipush 25, 2) := by decide +kernel
theorem dX0_stay_5 : decode cX0_stay 5 = .ok (.if_icmp .ge 87, 3) := by decide +kernel
theorem dX0_stay_8 : decode cX0_stay 8 = .ok (.aload_n 1, 1) := by decide +kernel
theorem dX0_stay_9 : decode cX0_stay 9 = .ok (.aload_n 1, 1) := by decide +kernel
theorem dX0_stay_10 : decode cX0_stay 10 = .ok (.getfield 65, 3) := by decide +kernel
theorem dX0_stay_13 : decode cX0_stay 13 = .ok (.iconst 1, 1) := by decide +kernel
theorem dX0_stay_14 : decode cX0_stay 14 = .ok (.iadd, 1) := by decide +kernel
theorem dX0_stay_15 : decode cX0_stay 15 = .ok (.iload_n 2, 1) := by decide +kernel
theorem dX0_stay_16 : decode cX0_stay 16 = .ok (.iadd, 1) := by decide +kernel
theorem dX0_stay_17 : decode cX0_stay 17 = .ok (.iload_n 3, 1) := by decide +kernel
theorem dX0_stay_18 : decode cX0_stay 18 = .ok (.bipush 12, 2) := by decide +kernel
theorem dX0_stay_20 : decode cX0_stay 20 = .ok (.isub, 1) := by decide +kernel
theorem dX0_stay_21 : decode cX0_stay 21 = .ok (.invokevirtual 68, 3) := by decide +kernel
theorem dX0_stay_24 : decode cX0_stay 24 = .ok (.lstore 4, 2) := by decide +kernel
theorem dX0_stay_26 : decode cX0_stay 26 = .ok (.aload_n 0, 1) := by decide +kernel
theorem dX0_stay_27 : decode cX0_stay 27 = .ok (.getfield 9, 3) := by decide +kernel
theorem dX0_stay_30 : decode cX0_stay 30 = .ok (.iload_n 2, 1) := by decide +kernel
theorem dX0_stay_31 : decode cX0_stay 31 = .ok (.bipush 25, 2) := by decide +kernel
theorem dX0_stay_33 : decode cX0_stay 33 = .ok (.imul, 1) := by decide +kernel
theorem dX0_stay_34 : decode cX0_stay 34 = .ok (.iload_n 3, 1) := by decide +kernel
theorem dX0_stay_35 : decode cX0_stay 35 = .ok (.iadd, 1) := by decide +kernel
theorem dX0_stay_36 : decode cX0_stay 36 = .ok (.lload 4, 2) := by decide +kernel
theorem dX0_stay_38 : decode cX0_stay 38 = .ok (.lastore, 1) := by decide +kernel
theorem dX0_stay_39 : decode cX0_stay 39 = .ok (.iconst 0, 1) := by decide +kernel
theorem dX0_stay_40 : decode cX0_stay 40 = .ok (.istore 6, 2) := by decide +kernel
theorem dX0_stay_42 : decode cX0_stay 42 = .ok (.iload 6, 2) := by decide +kernel
theorem dX0_stay_44 : decode cX0_stay 44 = .ok (.aload_n 0, 1) := by decide +kernel
theorem dX0_stay_45 : decode cX0_stay 45 = .ok (.getfield 22, 3) := by decide +kernel
theorem dX0_stay_48 : decode cX0_stay 48 = .ok (.if_icmp .gt 38, 3) := by decide +kernel
theorem dX0_stay_51 : decode cX0_stay 51 = .ok (.aload_n 0, 1) := by decide +kernel
theorem dX0_stay_52 : decode cX0_stay 52 = .ok (.getfield 15, 3) := by decide +kernel
theorem dX0_stay_55 : decode cX0_stay 55 = .ok (.iload_n 2, 1) := by decide +kernel
theorem dX0_stay_56 : decode cX0_stay 56 = .ok (.iload_n 3, 1) := by decide +kernel
theorem dX0_stay_57 : decode cX0_stay 57 = .ok (.iload 6, 2) := by decide +kernel
theorem dX0_stay_59 : decode cX0_stay 59 = .ok (.invokestatic 72, 3) := by decide +kernel
theorem dX0_stay_62 : decode cX0_stay 62 = .ok (.lload 4, 2) := by decide +kernel
theorem dX0_stay_64 : decode cX0_stay 64 = .ok (.ldc2_w 76, 3) := by decide +kernel
theorem dX0_stay_67 : decode cX0_stay 67 = .ok (.lmul, 1) := by decide +kernel
theorem dX0_stay_68 : decode cX0_stay 68 = .ok (.aload_n 0, 1) := by decide +kernel
theorem dX0_stay_69 : decode cX0_stay 69 = .ok (.iload_n 2, 1) := by decide +kernel
theorem dX0_stay_70 : decode cX0_stay 70 = .ok (.iconst 1, 1) := by decide +kernel
theorem dX0_stay_71 : decode cX0_stay 71 = .ok (.iadd, 1) := by decide +kernel
theorem dX0_stay_72 : decode cX0_stay 72 = .ok (.iload_n 3, 1) := by decide +kernel
theorem dX0_stay_73 : decode cX0_stay 73 = .ok (.iload 6, 2) := by decide +kernel
theorem dX0_stay_75 : decode cX0_stay 75 = .ok (.invokevirtual 78, 3) := by decide +kernel
theorem dX0_stay_78 : decode cX0_stay 78 = .ok (.ladd, 1) := by decide +kernel
theorem dX0_stay_79 : decode cX0_stay 79 = .ok (.lastore, 1) := by decide +kernel
theorem dX0_stay_80 : decode cX0_stay 80 = .ok (.iinc 6 1, 3) := by decide +kernel
theorem dX0_stay_83 : decode cX0_stay 83 = .ok (.goto (-41), 3) := by decide +kernel
theorem dX0_stay_86 : decode cX0_stay 86 = .ok (.iinc 3 1, 3) := by decide +kernel
theorem dX0_stay_89 : decode cX0_stay 89 = .ok (.goto (-87), 3) := by decide +kernel
theorem dX0_stay_92 : decode cX0_stay 92 = .ok (.return_, 1) := by decide +kernel
theorem dX0_spread_0 : decode cX0_spread 0 = .ok (.bipush 23, 2) := by decide +kernel
theorem dX0_spread_2 : decode cX0_spread 2 = .ok (.istore_n 2, 1) := by decide +kernel
theorem dX0_spread_3 : decode cX0_spread 3 = .ok (.iload_n 2, 1) := by decide +kernel
theorem dX0_spread_4 : decode cX0_spread 4 = .ok (.ifCond .lt 18, 3) := by decide +kernel
theorem dX0_spread_7 : decode cX0_spread 7 = .ok (.aload_n 0, 1) := by decide +kernel
theorem dX0_spread_8 : decode cX0_spread 8 = .ok (.iload_n 1, 1) := by decide +kernel
theorem dX0_spread_9 : decode cX0_spread 9 = .ok (.iload_n 2, 1) := by decide +kernel
theorem dX0_spread_10 : decode cX0_spread 10 = .ok (.iload_n 2, 1) := by decide +kernel
theorem dX0_spread_11 : decode cX0_spread 11 = .ok (.iconst 1, 1) := by decide +kernel
theorem dX0_spread_12 : decode cX0_spread 12 = .ok (.iadd, 1) := by decide +kernel
theorem dX0_spread_13 : decode cX0_spread 13 = .ok (.invokevirtual 82, 3) := by decide +kernel
theorem dX0_spread_16 : decode cX0_spread 16 = .ok (.iinc 2 (-1), 3) := by decide +kernel
theorem dX0_spread_19 : decode cX0_spread 19 = .ok (.goto (-16), 3) := by decide +kernel
theorem dX0_spread_22 : decode cX0_spread 22 = .ok (.iconst 1, 1) := by decide +kernel
theorem dX0_spread_23 : decode cX0_spread 23 = .ok (.istore_n 2, 1) := by decide +kernel
theorem dX0_spread_24 : decode cX0_spread 24 = .ok (.iload_n 2, 1) := by decide +kernel
theorem dX0_spread_25 : decode cX0_spread 25 = .ok (.bipush 25, 2) := by decide +kernel
theorem dX0_spread_27 : decode cX0_spread 27 = .ok (.if_icmp .ge 18, 3) := by decide +kernel
theorem dX0_spread_30 : decode cX0_spread 30 = .ok (.aload_n 0, 1) := by decide +kernel
theorem dX0_spread_31 : decode cX0_spread 31 = .ok (.iload_n 1, 1) := by decide +kernel
theorem dX0_spread_32 : decode cX0_spread 32 = .ok (.iload_n 2, 1) := by decide +kernel
theorem dX0_spread_33 : decode cX0_spread 33 = .ok (.iload_n 2, 1) := by decide +kernel
theorem dX0_spread_34 : decode cX0_spread 34 = .ok (.iconst 1, 1) := by decide +kernel
theorem dX0_spread_35 : decode cX0_spread 35 = .ok (.isub, 1) := by decide +kernel
theorem dX0_spread_36 : decode cX0_spread 36 = .ok (.invokevirtual 82, 3) := by decide +kernel
theorem dX0_spread_39 : decode cX0_spread 39 = .ok (.iinc 2 1, 3) := by decide +kernel
theorem dX0_spread_42 : decode cX0_spread 42 = .ok (.goto (-18), 3) := by decide +kernel
theorem dX0_spread_45 : decode cX0_spread 45 = .ok (.return_, 1) := by decide +kernel
theorem dX0_step_0 : decode cX0_step 0 = .ok (.iconst 1, 1) := by decide +kernel
theorem dX0_step_1 : decode cX0_step 1 = .ok (.istore 4, 2) := by decide +kernel
theorem dX0_step_3 : decode cX0_step 3 = .ok (.iload 4, 2) := by decide +kernel
theorem dX0_step_5 : decode cX0_step 5 = .ok (.aload_n 0, 1) := by decide +kernel
theorem dX0_step_6 : decode cX0_step 6 = .ok (.getfield 22, 3) := by decide +kernel
theorem dX0_step_9 : decode cX0_step 9 = .ok (.if_icmp .gt 51, 3) := by decide +kernel
theorem dX0_step_12 : decode cX0_step 12 = .ok (.iload_n 1, 1) := by decide +kernel
theorem dX0_step_13 : decode cX0_step 13 = .ok (.iload_n 2, 1) := by decide +kernel
theorem dX0_step_14 : decode cX0_step 14 = .ok (.iload 4, 2) := by decide +kernel
theorem dX0_step_16 : decode cX0_step 16 = .ok (.invokestatic 72, 3) := by decide +kernel
theorem dX0_step_19 : decode cX0_step 19 = .ok (.istore 5, 2) := by decide +kernel
theorem dX0_step_21 : decode cX0_step 21 = .ok (.aload_n 0, 1) := by decide +kernel
theorem dX0_step_22 : decode cX0_step 22 = .ok (.getfield 15, 3) := by decide +kernel
theorem dX0_step_25 : decode cX0_step 25 = .ok (.iload 5, 2) := by decide +kernel
theorem dX0_step_27 : decode cX0_step 27 = .ok (.aload_n 0, 1) := by decide +kernel
theorem dX0_step_28 : decode cX0_step 28 = .ok (.getfield 15, 3) := by decide +kernel
theorem dX0_step_31 : decode cX0_step 31 = .ok (.iload 5, 2) := by decide +kernel
theorem dX0_step_33 : decode cX0_step 33 = .ok (.laload, 1) := by decide +kernel
theorem dX0_step_34 : decode cX0_step 34 = .ok (.aload_n 0, 1) := by decide +kernel
theorem dX0_step_35 : decode cX0_step 35 = .ok (.getfield 15, 3) := by decide +kernel
theorem dX0_step_38 : decode cX0_step 38 = .ok (.iload_n 1, 1) := by decide +kernel
theorem dX0_step_39 : decode cX0_step 39 = .ok (.iload_n 3, 1) := by decide +kernel
theorem dX0_step_40 : decode cX0_step 40 = .ok (.iload 4, 2) := by decide +kernel
theorem dX0_step_42 : decode cX0_step 42 = .ok (.iconst 1, 1) := by decide +kernel
theorem dX0_step_43 : decode cX0_step 43 = .ok (.isub, 1) := by decide +kernel
theorem dX0_step_44 : decode cX0_step 44 = .ok (.invokestatic 72, 3) := by decide +kernel
theorem dX0_step_47 : decode cX0_step 47 = .ok (.laload, 1) := by decide +kernel
theorem dX0_step_48 : decode cX0_step 48 = .ok (.lconst 1, 1) := by decide +kernel
theorem dX0_step_49 : decode cX0_step 49 = .ok (.lsub, 1) := by decide +kernel
theorem dX0_step_50 : decode cX0_step 50 = .ok (.invokestatic 86, 3) := by decide +kernel
theorem dX0_step_53 : decode cX0_step 53 = .ok (.lastore, 1) := by decide +kernel
theorem dX0_step_54 : decode cX0_step 54 = .ok (.iinc 4 1, 3) := by decide +kernel
theorem dX0_step_57 : decode cX0_step 57 = .ok (.goto (-54), 3) := by decide +kernel
theorem dX0_step_60 : decode cX0_step 60 = .ok (.return_, 1) := by decide +kernel
theorem dX0_cell_0 : decode cX0_cell 0 = .ok (.iload_n 0, 1) := by decide +kernel
theorem dX0_cell_1 : decode cX0_cell 1 = .ok (.bipush 25, 2) := by decide +kernel
theorem dX0_cell_3 : decode cX0_cell 3 = .ok (.imul, 1) := by decide +kernel
theorem dX0_cell_4 : decode cX0_cell 4 = .ok (.iload_n 1, 1) := by decide +kernel
theorem dX0_cell_5 : decode cX0_cell 5 = .ok (.iadd, 1) := by decide +kernel
theorem dX0_cell_6 : decode cX0_cell 6 = .ok (.bipush 61, 2) := by decide +kernel
theorem dX0_cell_8 : decode cX0_cell 8 = .ok (.imul, 1) := by decide +kernel
theorem dX0_cell_9 : decode cX0_cell 9 = .ok (.iload_n 2, 1) := by decide +kernel
theorem dX0_cell_10 : decode cX0_cell 10 = .ok (.iadd, 1) := by decide +kernel
theorem dX0_cell_11 : decode cX0_cell 11 = .ok (.ireturn, 1) := by decide +kernel
theorem dX0_valueFrom_0 : decode cX0_valueFrom 0 = .ok (.iload_n 1, 1) := by decide +kernel
theorem dX0_valueFrom_1 : decode cX0_valueFrom 1 = .ok (.aload_n 0, 1) := by decide +kernel
theorem dX0_valueFrom_2 : decode cX0_valueFrom 2 = .ok (.getfield 18, 3) := by decide +kernel
theorem dX0_valueFrom_5 : decode cX0_valueFrom 5 = .ok (.if_icmp .ge 17, 3) := by decide +kernel
theorem dX0_valueFrom_8 : decode cX0_valueFrom 8 = .ok (.aload_n 0, 1) := by decide +kernel
theorem dX0_valueFrom_9 : decode cX0_valueFrom 9 = .ok (.getfield 15, 3) := by decide +kernel
theorem dX0_valueFrom_12 : decode cX0_valueFrom 12 = .ok (.iload_n 1, 1) := by decide +kernel
theorem dX0_valueFrom_13 : decode cX0_valueFrom 13 = .ok (.iload_n 2, 1) := by decide +kernel
theorem dX0_valueFrom_14 : decode cX0_valueFrom 14 = .ok (.iload_n 3, 1) := by decide +kernel
theorem dX0_valueFrom_15 : decode cX0_valueFrom 15 = .ok (.invokestatic 72, 3) := by decide +kernel
theorem dX0_valueFrom_18 : decode cX0_valueFrom 18 = .ok (.laload, 1) := by decide +kernel
theorem dX0_valueFrom_19 : decode cX0_valueFrom 19 = .ok (.goto 4, 3) := by decide +kernel
theorem dX0_valueFrom_22 : decode cX0_valueFrom 22 = .ok (.lconst 0, 1) := by decide +kernel
theorem dX0_valueFrom_23 : decode cX0_valueFrom 23 = .ok (.lreturn, 1) := by decide +kernel
theorem dX0_follow_0 : decode cX0_follow 0 = .ok (.iload_n 1, 1) := by decide +kernel
theorem dX0_follow_1 : decode cX0_follow 1 = .ok (.istore_n 2, 1) := by decide +kernel
theorem dX0_follow_2 : decode cX0_follow 2 = .ok (.aload_n 0, 1) := by decide +kernel
theorem dX0_follow_3 : decode cX0_follow 3 = .ok (.getfield 22, 3) := by decide +kernel
theorem dX0_follow_6 : decode cX0_follow 6 = .ok (.istore_n 3, 1) := by decide +kernel
theorem dX0_follow_7 : decode cX0_follow 7 = .ok (.aload_n 0, 1) := by decide +kernel
theorem dX0_follow_8 : decode cX0_follow 8 = .ok (.lconst 0, 1) := by decide +kernel
theorem dX0_follow_9 : decode cX0_follow 9 = .ok (.putfield 29, 3) := by decide +kernel
theorem dX0_follow_12 : decode cX0_follow 12 = .ok (.aload_n 0, 1) := by decide +kernel
theorem dX0_follow_13 : decode cX0_follow 13 = .ok (.iconst 0, 1) := by decide +kernel
theorem dX0_follow_14 : decode cX0_follow 14 = .ok (.putfield 36, 3) := by decide +kernel
theorem dX0_follow_17 : decode cX0_follow 17 = .ok (.iconst 0, 1) := by decide +kernel
theorem dX0_follow_18 : decode cX0_follow 18 = .ok (.istore 4, 2) := by decide +kernel
theorem dX0_follow_20 : decode cX0_follow 20 = .ok (.iload 4, 2) := by decide +kernel
theorem dX0_follow_22 : decode cX0_follow 22 = .ok (.aload_n 0, 1) := by decide +kernel
theorem dX0_follow_23 : decode cX0_follow 23 = .ok (.getfield 18, 3) := by decide +kernel
theorem dX0_follow_26 : decode cX0_follow 26 = .ok (.if_icmp .ge 81, 3) := by decide +kernel
theorem dX0_follow_29 : decode cX0_follow 29 = .ok (.aload_n 0, 1) := by decide +kernel
theorem dX0_follow_30 : decode cX0_follow 30 = .ok (.iload 4, 2) := by decide +kernel
theorem dX0_follow_32 : decode cX0_follow 32 = .ok (.iload_n 2, 1) := by decide +kernel
theorem dX0_follow_33 : decode cX0_follow 33 = .ok (.iload_n 3, 1) := by decide +kernel
theorem dX0_follow_34 : decode cX0_follow 34 = .ok (.invokevirtual 90, 3) := by decide +kernel
theorem dX0_follow_37 : decode cX0_follow 37 = .ok (.istore 5, 2) := by decide +kernel
theorem dX0_follow_39 : decode cX0_follow 39 = .ok (.aload_n 0, 1) := by decide +kernel
theorem dX0_follow_40 : decode cX0_follow 40 = .ok (.getfield 25, 3) := by decide +kernel
theorem dX0_follow_43 : decode cX0_follow 43 = .ok (.iload 4, 2) := by decide +kernel
theorem dX0_follow_45 : decode cX0_follow 45 = .ok (.iload 5, 2) := by decide +kernel
theorem dX0_follow_47 : decode cX0_follow 47 = .ok (.iastore, 1) := by decide +kernel
theorem dX0_follow_48 : decode cX0_follow 48 = .ok (.iload_n 2, 1) := by decide +kernel
theorem dX0_follow_49 : decode cX0_follow 49 = .ok (.iload 5, 2) := by decide +kernel
theorem dX0_follow_51 : decode cX0_follow 51 = .ok (.iadd, 1) := by decide +kernel
theorem dX0_follow_52 : decode cX0_follow 52 = .ok (.istore_n 2, 1) := by decide +kernel
theorem dX0_follow_53 : decode cX0_follow 53 = .ok (.iload_n 3, 1) := by decide +kernel
theorem dX0_follow_54 : decode cX0_follow 54 = .ok (.iload 5, 2) := by decide +kernel
theorem dX0_follow_56 : decode cX0_follow 56 = .ok (.invokestatic 93, 3) := by decide +kernel
theorem dX0_follow_59 : decode cX0_follow 59 = .ok (.isub, 1) := by decide +kernel
theorem dX0_follow_60 : decode cX0_follow 60 = .ok (.istore_n 3, 1) := by decide +kernel
theorem dX0_follow_61 : decode cX0_follow 61 = .ok (.aload_n 0, 1) := by decide +kernel
theorem dX0_follow_62 : decode cX0_follow 62 = .ok (.dup, 1) := by decide +kernel
theorem dX0_follow_63 : decode cX0_follow 63 = .ok (.getfield 29, 3) := by decide +kernel
theorem dX0_follow_66 : decode cX0_follow 66 = .ok (.aload_n 0, 1) := by decide +kernel
theorem dX0_follow_67 : decode cX0_follow 67 = .ok (.getfield 9, 3) := by decide +kernel
theorem dX0_follow_70 : decode cX0_follow 70 = .ok (.iload 4, 2) := by decide +kernel
theorem dX0_follow_72 : decode cX0_follow 72 = .ok (.bipush 25, 2) := by decide +kernel
theorem dX0_follow_74 : decode cX0_follow 74 = .ok (.imul, 1) := by decide +kernel
theorem dX0_follow_75 : decode cX0_follow 75 = .ok (.iload_n 2, 1) := by decide +kernel
theorem dX0_follow_76 : decode cX0_follow 76 = .ok (.iadd, 1) := by decide +kernel
theorem dX0_follow_77 : decode cX0_follow 77 = .ok (.laload, 1) := by decide +kernel
theorem dX0_follow_78 : decode cX0_follow 78 = .ok (.ladd, 1) := by decide +kernel
theorem dX0_follow_79 : decode cX0_follow 79 = .ok (.putfield 29, 3) := by decide +kernel
theorem dX0_follow_82 : decode cX0_follow 82 = .ok (.aload_n 0, 1) := by decide +kernel
theorem dX0_follow_83 : decode cX0_follow 83 = .ok (.dup, 1) := by decide +kernel
theorem dX0_follow_84 : decode cX0_follow 84 = .ok (.getfield 36, 3) := by decide +kernel
theorem dX0_follow_87 : decode cX0_follow 87 = .ok (.iload 5, 2) := by decide +kernel
theorem dX0_follow_89 : decode cX0_follow 89 = .ok (.ifCond .ne 7, 3) := by decide +kernel
theorem dX0_follow_92 : decode cX0_follow 92 = .ok (.iconst 0, 1) := by decide +kernel
theorem dX0_follow_93 : decode cX0_follow 93 = .ok (.goto 4, 3) := by decide +kernel
theorem dX0_follow_96 : decode cX0_follow 96 = .ok (.iconst 1, 1) := by decide +kernel
theorem dX0_follow_97 : decode cX0_follow 97 = .ok (.iadd, 1) := by decide +kernel
theorem dX0_follow_98 : decode cX0_follow 98 = .ok (.putfield 36, 3) := by decide +kernel
theorem dX0_follow_101 : decode cX0_follow 101 = .ok (.iinc 4 1, 3) := by decide +kernel
theorem dX0_follow_104 : decode cX0_follow 104 = .ok (.goto (-84), 3) := by decide +kernel
theorem dX0_follow_107 : decode cX0_follow 107 = .ok (.aload_n 0, 1) := by decide +kernel
theorem dX0_follow_108 : decode cX0_follow 108 = .ok (.aload_n 0, 1) := by decide +kernel
theorem dX0_follow_109 : decode cX0_follow 109 = .ok (.getfield 22, 3) := by decide +kernel
theorem dX0_follow_112 : decode cX0_follow 112 = .ok (.iload_n 3, 1) := by decide +kernel
theorem dX0_follow_113 : decode cX0_follow 113 = .ok (.isub, 1) := by decide +kernel
theorem dX0_follow_114 : decode cX0_follow 114 = .ok (.putfield 33, 3) := by decide +kernel
theorem dX0_follow_117 : decode cX0_follow 117 = .ok (.return_, 1) := by decide +kernel
theorem dX0_firstMove_0 : decode cX0_firstMove 0 = .ok (.iconst 0, 1) := by decide +kernel
theorem dX0_firstMove_1 : decode cX0_firstMove 1 = .ok (.istore 4, 2) := by decide +kernel
theorem dX0_firstMove_3 : decode cX0_firstMove 3 = .ok (.iload 4, 2) := by decide +kernel
theorem dX0_firstMove_5 : decode cX0_firstMove 5 = .ok (.iload_n 3, 1) := by decide +kernel
theorem dX0_firstMove_6 : decode cX0_firstMove 6 = .ok (.if_icmp .gt 48, 3) := by decide +kernel
theorem dX0_firstMove_9 : decode cX0_firstMove 9 = .ok (.iload 4, 2) := by decide +kernel
theorem dX0_firstMove_11 : decode cX0_firstMove 11 = .ok (.bipush 25, 2) := by decide +kernel
theorem dX0_firstMove_13 : decode cX0_firstMove 13 = .ok (.if_icmp .ge 41, 3) := by decide +kernel
theorem dX0_firstMove_16 : decode cX0_firstMove 16 = .ok (.aload_n 0, 1) := by decide +kernel
theorem dX0_firstMove_17 : decode cX0_firstMove 17 = .ok (.iload_n 1, 1) := by decide +kernel
theorem dX0_firstMove_18 : decode cX0_firstMove 18 = .ok (.iload_n 2, 1) := by decide +kernel
theorem dX0_firstMove_19 : decode cX0_firstMove 19 = .ok (.iload_n 3, 1) := by decide +kernel
theorem dX0_firstMove_20 : decode cX0_firstMove 20 = .ok (.iload 4, 2) := by decide +kernel
theorem dX0_firstMove_22 : decode cX0_firstMove 22 = .ok (.ineg, 1) := by decide +kernel
theorem dX0_firstMove_23 : decode cX0_firstMove 23 = .ok (.invokevirtual 97, 3) := by decide +kernel
theorem dX0_firstMove_26 : decode cX0_firstMove 26 = .ok (.ifCond .eq 7, 3) := by decide +kernel
theorem dX0_firstMove_29 : decode cX0_firstMove 29 = .ok (.iload 4, 2) := by decide +kernel
theorem dX0_firstMove_31 : decode cX0_firstMove 31 = .ok (.ineg, 1) := by decide +kernel
theorem dX0_firstMove_32 : decode cX0_firstMove 32 = .ok (.ireturn, 1) := by decide +kernel
theorem dX0_firstMove_33 : decode cX0_firstMove 33 = .ok (.aload_n 0, 1) := by decide +kernel
theorem dX0_firstMove_34 : decode cX0_firstMove 34 = .ok (.iload_n 1, 1) := by decide +kernel
theorem dX0_firstMove_35 : decode cX0_firstMove 35 = .ok (.iload_n 2, 1) := by decide +kernel
theorem dX0_firstMove_36 : decode cX0_firstMove 36 = .ok (.iload_n 3, 1) := by decide +kernel
theorem dX0_firstMove_37 : decode cX0_firstMove 37 = .ok (.iload 4, 2) := by decide +kernel
theorem dX0_firstMove_39 : decode cX0_firstMove 39 = .ok (.invokevirtual 97, 3) := by decide +kernel
theorem dX0_firstMove_42 : decode cX0_firstMove 42 = .ok (.ifCond .eq 6, 3) := by decide +kernel
theorem dX0_firstMove_45 : decode cX0_firstMove 45 = .ok (.iload 4, 2) := by decide +kernel
theorem dX0_firstMove_47 : decode cX0_firstMove 47 = .ok (.ireturn, 1) := by decide +kernel
theorem dX0_firstMove_48 : decode cX0_firstMove 48 = .ok (.iinc 4 1, 3) := by decide +kernel
theorem dX0_firstMove_51 : decode cX0_firstMove 51 = .ok (.goto (-48), 3) := by decide +kernel
theorem dX0_firstMove_54 : decode cX0_firstMove 54 = .ok (.iconst 0, 1) := by decide +kernel
theorem dX0_firstMove_55 : decode cX0_firstMove 55 = .ok (.ireturn, 1) := by decide +kernel
theorem dX0_keepsValue_0 : decode cX0_keepsValue 0 = .ok (.iload_n 2, 1) := by decide +kernel
theorem dX0_keepsValue_1 : decode cX0_keepsValue 1 = .ok (.iload 4, 2) := by decide +kernel
theorem dX0_keepsValue_3 : decode cX0_keepsValue 3 = .ok (.iadd, 1) := by decide +kernel
theorem dX0_keepsValue_4 : decode cX0_keepsValue 4 = .ok (.istore 5, 2) := by decide +kernel
theorem dX0_keepsValue_6 : decode cX0_keepsValue 6 = .ok (.iload 5, 2) := by decide +kernel
theorem dX0_keepsValue_8 : decode cX0_keepsValue 8 = .ok (.ifCond .lt 10, 3) := by decide +kernel
theorem dX0_keepsValue_11 : decode cX0_keepsValue 11 = .ok (.iload 5, 2) := by decide +kernel
theorem dX0_keepsValue_13 : decode cX0_keepsValue 13 = .ok (.bipush 25, 2) := by decide +kernel
theorem dX0_keepsValue_15 : decode cX0_keepsValue 15 = .ok (.if_icmp .lt 5, 3) := by decide +kernel
theorem dX0_keepsValue_18 : decode cX0_keepsValue 18 = .ok (.iconst 0, 1) := by decide +kernel
theorem dX0_keepsValue_19 : decode cX0_keepsValue 19 = .ok (.ireturn, 1) := by decide +kernel
theorem dX0_keepsValue_20 : decode cX0_keepsValue 20 = .ok (.iload 4, 2) := by decide +kernel
theorem dX0_keepsValue_22 : decode cX0_keepsValue 22 = .ok (.invokestatic 93, 3) := by decide +kernel
theorem dX0_keepsValue_25 : decode cX0_keepsValue 25 = .ok (.istore 6, 2) := by decide +kernel
theorem dX0_keepsValue_27 : decode cX0_keepsValue 27 = .ok (.aload_n 0, 1) := by decide +kernel
theorem dX0_keepsValue_28 : decode cX0_keepsValue 28 = .ok (.getfield 9, 3) := by decide +kernel
theorem dX0_keepsValue_31 : decode cX0_keepsValue 31 = .ok (.iload_n 1, 1) := by decide +kernel
theorem dX0_keepsValue_32 : decode cX0_keepsValue 32 = .ok (.bipush 25, 2) := by decide +kernel
theorem dX0_keepsValue_34 : decode cX0_keepsValue 34 = .ok (.imul, 1) := by decide +kernel
theorem dX0_keepsValue_35 : decode cX0_keepsValue 35 = .ok (.iload 5, 2) := by decide +kernel
theorem dX0_keepsValue_37 : decode cX0_keepsValue 37 = .ok (.iadd, 1) := by decide +kernel
theorem dX0_keepsValue_38 : decode cX0_keepsValue 38 = .ok (.laload, 1) := by decide +kernel
theorem dX0_keepsValue_39 : decode cX0_keepsValue 39 = .ok (.ldc2_w 76, 3) := by decide +kernel
theorem dX0_keepsValue_42 : decode cX0_keepsValue 42 = .ok (.lmul, 1) := by decide +kernel
theorem dX0_keepsValue_43 : decode cX0_keepsValue 43 = .ok (.aload_n 0, 1) := by decide +kernel
theorem dX0_keepsValue_44 : decode cX0_keepsValue 44 = .ok (.iload_n 1, 1) := by decide +kernel
theorem dX0_keepsValue_45 : decode cX0_keepsValue 45 = .ok (.iconst 1, 1) := by decide +kernel
theorem dX0_keepsValue_46 : decode cX0_keepsValue 46 = .ok (.iadd, 1) := by decide +kernel
theorem dX0_keepsValue_47 : decode cX0_keepsValue 47 = .ok (.iload 5, 2) := by decide +kernel
theorem dX0_keepsValue_49 : decode cX0_keepsValue 49 = .ok (.iload_n 3, 1) := by decide +kernel
theorem dX0_keepsValue_50 : decode cX0_keepsValue 50 = .ok (.iload 6, 2) := by decide +kernel
theorem dX0_keepsValue_52 : decode cX0_keepsValue 52 = .ok (.isub, 1) := by decide +kernel
theorem dX0_keepsValue_53 : decode cX0_keepsValue 53 = .ok (.invokevirtual 78, 3) := by decide +kernel
theorem dX0_keepsValue_56 : decode cX0_keepsValue 56 = .ok (.ladd, 1) := by decide +kernel
theorem dX0_keepsValue_57 : decode cX0_keepsValue 57 = .ok (.iload 6, 2) := by decide +kernel
theorem dX0_keepsValue_59 : decode cX0_keepsValue 59 = .ok (.i2l, 1) := by decide +kernel
theorem dX0_keepsValue_60 : decode cX0_keepsValue 60 = .ok (.lsub, 1) := by decide +kernel
theorem dX0_keepsValue_61 : decode cX0_keepsValue 61 = .ok (.lstore 7, 2) := by decide +kernel
theorem dX0_keepsValue_63 : decode cX0_keepsValue 63 = .ok (.lload 7, 2) := by decide +kernel
theorem dX0_keepsValue_65 : decode cX0_keepsValue 65 = .ok (.aload_n 0, 1) := by decide +kernel
theorem dX0_keepsValue_66 : decode cX0_keepsValue 66 = .ok (.getfield 15, 3) := by decide +kernel
theorem dX0_keepsValue_69 : decode cX0_keepsValue 69 = .ok (.iload_n 1, 1) := by decide +kernel
theorem dX0_keepsValue_70 : decode cX0_keepsValue 70 = .ok (.iload_n 2, 1) := by decide +kernel
theorem dX0_keepsValue_71 : decode cX0_keepsValue 71 = .ok (.iload_n 3, 1) := by decide +kernel
theorem dX0_keepsValue_72 : decode cX0_keepsValue 72 = .ok (.invokestatic 72, 3) := by decide +kernel
theorem dX0_keepsValue_75 : decode cX0_keepsValue 75 = .ok (.laload, 1) := by decide +kernel
theorem dX0_keepsValue_76 : decode cX0_keepsValue 76 = .ok (.lcmp, 1) := by decide +kernel
theorem dX0_keepsValue_77 : decode cX0_keepsValue 77 = .ok (.ifCond .ne 7, 3) := by decide +kernel
theorem dX0_keepsValue_80 : decode cX0_keepsValue 80 = .ok (.iconst 1, 1) := by decide +kernel
theorem dX0_keepsValue_81 : decode cX0_keepsValue 81 = .ok (.goto 4, 3) := by decide +kernel
theorem dX0_keepsValue_84 : decode cX0_keepsValue 84 = .ok (.iconst 0, 1) := by decide +kernel
theorem dX0_keepsValue_85 : decode cX0_keepsValue 85 = .ok (.ireturn, 1) := by decide +kernel
theorem dX1_init_0 : decode cX1_init 0 = .ok (.aload_n 0, 1) := by decide +kernel
theorem dX1_init_1 : decode cX1_init 1 = .ok (.invokespecial 3, 3) := by decide +kernel
theorem dX1_init_4 : decode cX1_init 4 = .ok (.aload_n 0, 1) := by decide +kernel
theorem dX1_init_5 : decode cX1_init 5 = .ok (.bipush 6, 2) := by decide +kernel
theorem dX1_init_7 : decode cX1_init 7 = .ok (.newarray .int, 2) := by decide +kernel
theorem dX1_init_9 : decode cX1_init 9 = .ok (.putfield 11, 3) := by decide +kernel
theorem dX1_init_12 : decode cX1_init 12 = .ok (.aload_n 0, 1) := by decide +kernel
theorem dX1_init_13 : decode cX1_init 13 = .ok (.iconst (-1), 1) := by decide +kernel
theorem dX1_init_14 : decode cX1_init 14 = .ok (.putfield 15, 3) := by decide +kernel
theorem dX1_init_17 : decode cX1_init 17 = .ok (.aload_n 0, 1) := by decide +kernel
theorem dX1_init_18 : decode cX1_init 18 = .ok (.iconst 0, 1) := by decide +kernel
theorem dX1_init_19 : decode cX1_init 19 = .ok (.putfield 19, 3) := by decide +kernel
theorem dX1_init_22 : decode cX1_init 22 = .ok (.aload_n 0, 1) := by decide +kernel
theorem dX1_init_23 : decode cX1_init 23 = .ok (.iconst 1, 1) := by decide +kernel
theorem dX1_init_24 : decode cX1_init 24 = .ok (.putfield 22, 3) := by decide +kernel
theorem dX1_init_27 : decode cX1_init 27 = .ok (.aload_n 0, 1) := by decide +kernel
theorem dX1_init_28 : decode cX1_init 28 = .ok (.iconst 0, 1) := by decide +kernel
theorem dX1_init_29 : decode cX1_init 29 = .ok (.putfield 26, 3) := by decide +kernel
theorem dX1_init_32 : decode cX1_init 32 = .ok (.aload_n 0, 1) := by decide +kernel
theorem dX1_init_33 : decode cX1_init 33 = .ok (.iconst 0, 1) := by decide +kernel
theorem dX1_init_34 : decode cX1_init 34 = .ok (.putfield 29, 3) := by decide +kernel
theorem dX1_init_37 : decode cX1_init 37 = .ok (.aload_n 0, 1) := by decide +kernel
theorem dX1_init_38 : decode cX1_init 38 = .ok (.iconst 0, 1) := by decide +kernel
theorem dX1_init_39 : decode cX1_init 39 = .ok (.putfield 32, 3) := by decide +kernel
theorem dX1_init_42 : decode cX1_init 42 = .ok (.aload_n 0, 1) := by decide +kernel
theorem dX1_init_43 : decode cX1_init 43 = .ok (.iconst 1, 1) := by decide +kernel
theorem dX1_init_44 : decode cX1_init 44 = .ok (.putfield 35, 3) := by decide +kernel
theorem dX1_init_47 : decode cX1_init 47 = .ok (.aload_n 0, 1) := by decide +kernel
theorem dX1_init_48 : decode cX1_init 48 = .ok (.iconst 5, 1) := by decide +kernel
theorem dX1_init_49 : decode cX1_init 49 = .ok (.newarray .int, 2) := by decide +kernel
theorem dX1_init_51 : decode cX1_init 51 = .ok (.putfield 38, 3) := by decide +kernel
theorem dX1_init_54 : decode cX1_init 54 = .ok (.aload_n 0, 1) := by decide +kernel
theorem dX1_init_55 : decode cX1_init 55 = .ok (.iconst 5, 1) := by decide +kernel
theorem dX1_init_56 : decode cX1_init 56 = .ok (.newarray .int, 2) := by decide +kernel
theorem dX1_init_58 : decode cX1_init 58 = .ok (.putfield 41, 3) := by decide +kernel
theorem dX1_init_61 : decode cX1_init 61 = .ok (.aload_n 0, 1) := by decide +kernel
theorem dX1_init_62 : decode cX1_init 62 = .ok (.iconst 0, 1) := by decide +kernel
theorem dX1_init_63 : decode cX1_init 63 = .ok (.putfield 44, 3) := by decide +kernel
theorem dX1_init_66 : decode cX1_init 66 = .ok (.aload_n 0, 1) := by decide +kernel
theorem dX1_init_67 : decode cX1_init 67 = .ok (.iconst 0, 1) := by decide +kernel
theorem dX1_init_68 : decode cX1_init 68 = .ok (.putfield 47, 3) := by decide +kernel
theorem dX1_init_71 : decode cX1_init 71 = .ok (.aload_n 0, 1) := by decide +kernel
theorem dX1_init_72 : decode cX1_init 72 = .ok (.bipush 61, 2) := by decide +kernel
theorem dX1_init_74 : decode cX1_init 74 = .ok (.putfield 50, 3) := by decide +kernel
theorem dX1_init_77 : decode cX1_init 77 = .ok (.aload_n 0, 1) := by decide +kernel
theorem dX1_init_78 : decode cX1_init 78 = .ok (.iconst 1, 1) := by decide +kernel
theorem dX1_init_79 : decode cX1_init 79 = .ok (.putfield 53, 3) := by decide +kernel
theorem dX1_init_82 : decode cX1_init 82 = .ok (.aload_n 0, 1) := by decide +kernel
theorem dX1_init_83 : decode cX1_init 83 = .ok (.iconst 0, 1) := by decide +kernel
theorem dX1_init_84 : decode cX1_init 84 = .ok (.putfield 56, 3) := by decide +kernel
theorem dX1_init_87 : decode cX1_init 87 = .ok (.aload_n 0, 1) := by decide +kernel
theorem dX1_init_88 : decode cX1_init 88 = .ok (.iconst 0, 1) := by decide +kernel
theorem dX1_init_89 : decode cX1_init 89 = .ok (.putfield 59, 3) := by decide +kernel
theorem dX1_init_92 : decode cX1_init 92 = .ok (.return_, 1) := by decide +kernel
theorem dX1_told_0 : decode cX1_told 0 = .ok (.aload_n 1, 1) := by decide +kernel
theorem dX1_told_1 : decode cX1_told 1 = .ok (.invokevirtual 62, 3) := by decide +kernel
theorem dX1_told_4 : decode cX1_told 4 = .ok (.ifCond .ne 5, 3) := by decide +kernel
theorem dX1_told_7 : decode cX1_told 7 = .ok (.iconst 0, 1) := by decide +kernel
theorem dX1_told_8 : decode cX1_told 8 = .ok (.ireturn, 1) := by decide +kernel
theorem dX1_told_9 : decode cX1_told 9 = .ok (.aload_n 0, 1) := by decide +kernel
theorem dX1_told_10 : decode cX1_told 10 = .ok (.aload_n 1, 1) := by decide +kernel
theorem dX1_told_11 : decode cX1_told 11 = .ok (.invokevirtual 68, 3) := by decide +kernel
theorem dX1_told_14 : decode cX1_told 14 = .ok (.aload_n 0, 1) := by decide +kernel
theorem dX1_told_15 : decode cX1_told 15 = .ok (.aload_n 1, 1) := by decide +kernel
theorem dX1_told_16 : decode cX1_told 16 = .ok (.getfield 72, 3) := by decide +kernel
theorem dX1_told_19 : decode cX1_told 19 = .ok (.aload_n 1, 1) := by decide +kernel
theorem dX1_told_20 : decode cX1_told 20 = .ok (.getfield 76, 3) := by decide +kernel
theorem dX1_told_23 : decode cX1_told 23 = .ok (.invokevirtual 79, 3) := by decide +kernel
theorem dX1_told_26 : decode cX1_told 26 = .ok (.aload_n 0, 1) := by decide +kernel
theorem dX1_told_27 : decode cX1_told 27 = .ok (.getfield 56, 3) := by decide +kernel
theorem dX1_told_30 : decode cX1_told 30 = .ok (.ifCond .eq 10, 3) := by decide +kernel
theorem dX1_told_33 : decode cX1_told 33 = .ok (.aload_n 0, 1) := by decide +kernel
theorem dX1_told_34 : decode cX1_told 34 = .ok (.getfield 59, 3) := by decide +kernel
theorem dX1_told_37 : decode cX1_told 37 = .ok (.goto 7, 3) := by decide +kernel
theorem dX1_told_40 : decode cX1_told 40 = .ok (.aload_n 0, 1) := by decide +kernel
theorem dX1_told_41 : decode cX1_told 41 = .ok (.getfield 32, 3) := by decide +kernel
theorem dX1_told_44 : decode cX1_told 44 = .ok (.ireturn, 1) := by decide +kernel
theorem dX1_faultOf_0 : decode cX1_faultOf 0 = .ok (.aload_n 0, 1) := by decide +kernel
theorem dX1_faultOf_1 : decode cX1_faultOf 1 = .ok (.aload_n 1, 1) := by decide +kernel
theorem dX1_faultOf_2 : decode cX1_faultOf 2 = .ok (.iload_n 2, 1) := by decide +kernel
theorem dX1_faultOf_3 : decode cX1_faultOf 3 = .ok (.invokevirtual 79, 3) := by decide +kernel
theorem dX1_faultOf_6 : decode cX1_faultOf 6 = .ok (.aload_n 0, 1) := by decide +kernel
theorem dX1_faultOf_7 : decode cX1_faultOf 7 = .ok (.getfield 15, 3) := by decide +kernel
theorem dX1_faultOf_10 : decode cX1_faultOf 10 = .ok (.ireturn, 1) := by decide +kernel
theorem dX1_learn_0 : decode cX1_learn 0 = .ok (.aload_n 1, 1) := by decide +kernel
theorem dX1_learn_1 : decode cX1_learn 1 = .ok (.invokevirtual 83, 3) := by decide +kernel
theorem dX1_learn_4 : decode cX1_learn 4 = .ok (.istore_n 2, 1) := by decide +kernel
theorem dX1_learn_5 : decode cX1_learn 5 = .ok (.aload_n 0, 1) := by decide +kernel
theorem dX1_learn_6 : decode cX1_learn 6 = .ok (.getfield 11, 3) := by decide +kernel
theorem dX1_learn_9 : decode cX1_learn 9 = .ok (.iconst 0, 1) := by decide +kernel
theorem dX1_learn_10 : decode cX1_learn 10 = .ok (.aload_n 1, 1) := by decide +kernel
theorem dX1_learn_11 : decode cX1_learn 11 = .ok (.aload_n 1, 1) := by decide +kernel
theorem dX1_learn_12 : decode cX1_learn 12 = .ok (.getfield 87, 3) := by decide +kernel
theorem dX1_learn_15 : decode cX1_learn 15 = .ok (.iconst 1, 1) := by decide +kernel
theorem dX1_learn_16 : decode cX1_learn 16 = .ok (.iadd, 1) := by decide +kernel
theorem dX1_learn_17 : decode cX1_learn 17 = .ok (.aload_n 1, 1) := by decide +kernel
theorem dX1_learn_18 : decode cX1_learn 18 = .ok (.getfield 90, 3) := by decide +kernel
theorem dX1_learn_21 : decode cX1_learn 21 = .ok (.invokevirtual 93, 3) := by decide +kernel
theorem dX1_learn_24 : decode cX1_learn 24 = .ok (.iastore, 1) := by decide +kernel
theorem dX1_learn_25 : decode cX1_learn 25 = .ok (.aload_n 0, 1) := by decide +kernel
theorem dX1_learn_26 : decode cX1_learn 26 = .ok (.getfield 11, 3) := by decide +kernel
theorem dX1_learn_29 : decode cX1_learn 29 = .ok (.iconst 1, 1) := by decide +kernel
theorem dX1_learn_30 : decode cX1_learn 30 = .ok (.iload_n 2, 1) := by decide +kernel
theorem dX1_learn_31 : decode cX1_learn 31 = .ok (.ifCond .ge 9, 3) := by decide +kernel
theorem dX1_learn_34 : decode cX1_learn 34 = .ok (.sipush 999, 3) := by decide +kernel
theorem dX1_learn_37 : decode cX1_learn 37 = .ok (.goto 9, 3) := by decide +kernel
theorem dX1_learn_40 : decode cX1_learn 40 = .ok (.iload_n 2, 1) := by decide +kernel
theorem dX1_learn_41 : decode cX1_learn 41 = .ok (.aload_n 1, 1) := by decide +kernel
theorem dX1_learn_42 : decode cX1_learn 42 = .ok (.getfield 87, 3) := by decide +kernel
theorem dX1_learn_45 : decode cX1_learn 45 = .ok (.isub, 1) := by decide +kernel
theorem dX1_learn_46 : decode cX1_learn 46 = .ok (.iastore, 1) := by decide +kernel
theorem dX1_learn_47 : decode cX1_learn 47 = .ok (.aload_n 0, 1) := by decide +kernel
theorem dX1_learn_48 : decode cX1_learn 48 = .ok (.getfield 11, 3) := by decide +kernel
theorem dX1_learn_51 : decode cX1_learn 51 = .ok (.iconst 2, 1) := by decide +kernel
theorem dX1_learn_52 : decode cX1_learn 52 = .ok (.aload_n 1, 1) := by decide +kernel
theorem dX1_learn_53 : decode cX1_learn 53 = .ok (.getfield 97, 3) := by decide +kernel
theorem dX1_learn_56 : decode cX1_learn 56 = .ok (.iconst 5, 1) := by decide +kernel
theorem dX1_learn_57 : decode cX1_learn 57 = .ok (.iaload, 1) := by decide +kernel
theorem dX1_learn_58 : decode cX1_learn 58 = .ok (.iastore, 1) := by decide +kernel
theorem dX1_learn_59 : decode cX1_learn 59 = .ok (.aload_n 0, 1) := by decide +kernel
theorem dX1_learn_60 : decode cX1_learn 60 = .ok (.getfield 11, 3) := by decide +kernel
theorem dX1_learn_63 : decode cX1_learn 63 = .ok (.iconst 3, 1) := by decide +kernel
theorem dX1_learn_64 : decode cX1_learn 64 = .ok (.aload_n 1, 1) := by decide +kernel
theorem dX1_learn_65 : decode cX1_learn 65 = .ok (.getfield 90, 3) := by decide +kernel
theorem dX1_learn_68 : decode cX1_learn 68 = .ok (.iastore, 1) := by decide +kernel
theorem dX1_learn_69 : decode cX1_learn 69 = .ok (.aload_n 0, 1) := by decide +kernel
theorem dX1_learn_70 : decode cX1_learn 70 = .ok (.getfield 11, 3) := by decide +kernel
theorem dX1_learn_73 : decode cX1_learn 73 = .ok (.iconst 4, 1) := by decide +kernel
theorem dX1_learn_74 : decode cX1_learn 74 = .ok (.aload_n 1, 1) := by decide +kernel
theorem dX1_learn_75 : decode cX1_learn 75 = .ok (.invokevirtual 100, 3) := by decide +kernel
theorem dX1_learn_78 : decode cX1_learn 78 = .ok (.iastore, 1) := by decide +kernel
theorem dX1_learn_79 : decode cX1_learn 79 = .ok (.aload_n 0, 1) := by decide +kernel
theorem dX1_learn_80 : decode cX1_learn 80 = .ok (.getfield 11, 3) := by decide +kernel
theorem dX1_learn_83 : decode cX1_learn 83 = .ok (.iconst 5, 1) := by decide +kernel
theorem dX1_learn_84 : decode cX1_learn 84 = .ok (.aload_n 1, 1) := by decide +kernel
theorem dX1_learn_85 : decode cX1_learn 85 = .ok (.getfield 87, 3) := by decide +kernel
theorem dX1_learn_88 : decode cX1_learn 88 = .ok (.iastore, 1) := by decide +kernel
theorem dX1_learn_89 : decode cX1_learn 89 = .ok (.return_, 1) := by decide +kernel
theorem dX1_nameOf_0 : decode cX1_nameOf 0 = .ok (.iload_n 0, 1) := by decide +kernel
theorem dX1_nameOf_1 : decode cX1_nameOf 1 = .ok (.tableswitch 99 99 116 #[87, 89, 99, 91, 99, 93, 99, 99, 99, 99, 99, 95, 99, 99, 99, 99, 99, 97], 87) := by decide +kernel
theorem dX1_nameOf_88 : decode cX1_nameOf 88 = .ok (.iconst 0, 1) := by decide +kernel
theorem dX1_nameOf_89 : decode cX1_nameOf 89 = .ok (.ireturn, 1) := by decide +kernel
theorem dX1_nameOf_90 : decode cX1_nameOf 90 = .ok (.iconst 1, 1) := by decide +kernel
theorem dX1_nameOf_91 : decode cX1_nameOf 91 = .ok (.ireturn, 1) := by decide +kernel
theorem dX1_nameOf_92 : decode cX1_nameOf 92 = .ok (.iconst 2, 1) := by decide +kernel
theorem dX1_nameOf_93 : decode cX1_nameOf 93 = .ok (.ireturn, 1) := by decide +kernel
theorem dX1_nameOf_94 : decode cX1_nameOf 94 = .ok (.iconst 3, 1) := by decide +kernel
theorem dX1_nameOf_95 : decode cX1_nameOf 95 = .ok (.ireturn, 1) := by decide +kernel
theorem dX1_nameOf_96 : decode cX1_nameOf 96 = .ok (.iconst 4, 1) := by decide +kernel
theorem dX1_nameOf_97 : decode cX1_nameOf 97 = .ok (.ireturn, 1) := by decide +kernel
theorem dX1_nameOf_98 : decode cX1_nameOf 98 = .ok (.iconst 5, 1) := by decide +kernel
theorem dX1_nameOf_99 : decode cX1_nameOf 99 = .ok (.ireturn, 1) := by decide +kernel
theorem dX1_nameOf_100 : decode cX1_nameOf 100 = .ok (.iconst (-1), 1) := by decide +kernel
theorem dX1_nameOf_101 : decode cX1_nameOf 101 = .ok (.ireturn, 1) := by decide +kernel
theorem dX1_readText_0 : decode cX1_readText 0 = .ok (.aload_n 0, 1) := by decide +kernel
theorem dX1_readText_1 : decode cX1_readText 1 = .ok (.iconst (-1), 1) := by decide +kernel
theorem dX1_readText_2 : decode cX1_readText 2 = .ok (.putfield 15, 3) := by decide +kernel
theorem dX1_readText_5 : decode cX1_readText 5 = .ok (.aload_n 0, 1) := by decide +kernel
theorem dX1_readText_6 : decode cX1_readText 6 = .ok (.iconst 0, 1) := by decide +kernel
theorem dX1_readText_7 : decode cX1_readText 7 = .ok (.putfield 44, 3) := by decide +kernel
theorem dX1_readText_10 : decode cX1_readText 10 = .ok (.aload_n 0, 1) := by decide +kernel
theorem dX1_readText_11 : decode cX1_readText 11 = .ok (.iconst 0, 1) := by decide +kernel
theorem dX1_readText_12 : decode cX1_readText 12 = .ok (.putfield 29, 3) := by decide +kernel
theorem dX1_readText_15 : decode cX1_readText 15 = .ok (.aload_n 0, 1) := by decide +kernel
theorem dX1_readText_16 : decode cX1_readText 16 = .ok (.iconst 1, 1) := by decide +kernel
theorem dX1_readText_17 : decode cX1_readText 17 = .ok (.putfield 53, 3) := by decide +kernel
theorem dX1_readText_20 : decode cX1_readText 20 = .ok (.aload_n 0, 1) := by decide +kernel
theorem dX1_readText_21 : decode cX1_readText 21 = .ok (.iconst 0, 1) := by decide +kernel
theorem dX1_readText_22 : decode cX1_readText 22 = .ok (.putfield 56, 3) := by decide +kernel
theorem dX1_readText_25 : decode cX1_readText 25 = .ok (.aload_n 0, 1) := by decide +kernel
theorem dX1_readText_26 : decode cX1_readText 26 = .ok (.iconst 0, 1) := by decide +kernel
theorem dX1_readText_27 : decode cX1_readText 27 = .ok (.invokevirtual 103, 3) := by decide +kernel
theorem dX1_readText_30 : decode cX1_readText 30 = .ok (.iconst 0, 1) := by decide +kernel
theorem dX1_readText_31 : decode cX1_readText 31 = .ok (.istore_n 3, 1) := by decide +kernel
theorem dX1_readText_32 : decode cX1_readText 32 = .ok (.iload_n 3, 1) := by decide +kernel
theorem dX1_readText_33 : decode cX1_readText 33 = .ok (.iload_n 2, 1) := by decide +kernel
theorem dX1_readText_34 : decode cX1_readText 34 = .ok (.if_icmp .ge 127, 3) := by decide +kernel
theorem dX1_readText_37 : decode cX1_readText 37 = .ok (.aload_n 0, 1) := by decide +kernel
theorem dX1_readText_38 : decode cX1_readText 38 = .ok (.getfield 15, 3) := by decide +kernel
theorem dX1_readText_41 : decode cX1_readText 41 = .ok (.iconst (-1), 1) := by decide +kernel
theorem dX1_readText_42 : decode cX1_readText 42 = .ok (.if_icmp .ne 119, 3) := by decide +kernel
theorem dX1_readText_45 : decode cX1_readText 45 = .ok (.aload_n 1, 1) := by decide +kernel
theorem dX1_readText_46 : decode cX1_readText 46 = .ok (.iload_n 3, 1) := by decide +kernel
theorem dX1_readText_47 : decode cX1_readText 47 = .ok (.baload, 1) := by decide +kernel
theorem dX1_readText_48 : decode cX1_readText 48 = .ok (.istore 4, 2) := by decide +kernel
theorem dX1_readText_50 : decode cX1_readText 50 = .ok (.iload 4, 2) := by decide +kernel
theorem dX1_readText_52 : decode cX1_readText 52 = .ok (.bipush 48, 2) := by decide +kernel
theorem dX1_readText_54 : decode cX1_readText 54 = .ok (.if_icmp .lt 14, 3) := by decide +kernel
theorem dX1_readText_57 : decode cX1_readText 57 = .ok (.iload 4, 2) := by decide +kernel
theorem dX1_readText_59 : decode cX1_readText 59 = .ok (.bipush 57, 2) := by decide +kernel
theorem dX1_readText_61 : decode cX1_readText 61 = .ok (.if_icmp .gt 7, 3) := by decide +kernel
theorem dX1_readText_64 : decode cX1_readText 64 = .ok (.iconst 1, 1) := by decide +kernel
theorem dX1_readText_65 : decode cX1_readText 65 = .ok (.goto 4, 3) := by decide +kernel
theorem dX1_readText_68 : decode cX1_readText 68 = .ok (.iconst 0, 1) := by decide +kernel
theorem dX1_readText_69 : decode cX1_readText 69 = .ok (.istore 5, 2) := by decide +kernel
theorem dX1_readText_71 : decode cX1_readText 71 = .ok (.iload 5, 2) := by decide +kernel
theorem dX1_readText_73 : decode cX1_readText 73 = .ok (.ifCond .ne 7, 3) := by decide +kernel
theorem dX1_readText_76 : decode cX1_readText 76 = .ok (.aload_n 0, 1) := by decide +kernel
theorem dX1_readText_77 : decode cX1_readText 77 = .ok (.invokevirtual 107, 3) := by decide +kernel
theorem dX1_readText_80 : decode cX1_readText 80 = .ok (.iload 5, 2) := by decide +kernel
theorem dX1_readText_82 : decode cX1_readText 82 = .ok (.ifCond .eq 15, 3) := by decide +kernel
theorem dX1_readText_85 : decode cX1_readText 85 = .ok (.aload_n 0, 1) := by decide +kernel
theorem dX1_readText_86 : decode cX1_readText 86 = .ok (.iload 4, 2) := by decide +kernel
theorem dX1_readText_88 : decode cX1_readText 88 = .ok (.bipush 48, 2) := by decide +kernel
theorem dX1_readText_90 : decode cX1_readText 90 = .ok (.isub, 1) := by decide +kernel
theorem dX1_readText_91 : decode cX1_readText 91 = .ok (.invokevirtual 110, 3) := by decide +kernel
theorem dX1_readText_94 : decode cX1_readText 94 = .ok (.goto 49, 3) := by decide +kernel
theorem dX1_readText_97 : decode cX1_readText 97 = .ok (.aload_n 0, 1) := by decide +kernel
theorem dX1_readText_98 : decode cX1_readText 98 = .ok (.getfield 22, 3) := by decide +kernel
theorem dX1_readText_101 : decode cX1_readText 101 = .ok (.ifCond .eq 12, 3) := by decide +kernel
theorem dX1_readText_104 : decode cX1_readText 104 = .ok (.aload_n 0, 1) := by decide +kernel
theorem dX1_readText_105 : decode cX1_readText 105 = .ok (.iload 4, 2) := by decide +kernel
theorem dX1_readText_107 : decode cX1_readText 107 = .ok (.invokevirtual 114, 3) := by decide +kernel
theorem dX1_readText_110 : decode cX1_readText 110 = .ok (.goto 33, 3) := by decide +kernel
theorem dX1_readText_113 : decode cX1_readText 113 = .ok (.aload_n 0, 1) := by decide +kernel
theorem dX1_readText_114 : decode cX1_readText 114 = .ok (.iload 4, 2) := by decide +kernel
theorem dX1_readText_116 : decode cX1_readText 116 = .ok (.invokevirtual 117, 3) := by decide +kernel
theorem dX1_readText_119 : decode cX1_readText 119 = .ok (.ifCond .ne 19, 3) := by decide +kernel
theorem dX1_readText_122 : decode cX1_readText 122 = .ok (.aload_n 0, 1) := by decide +kernel
theorem dX1_readText_123 : decode cX1_readText 123 = .ok (.getfield 44, 3) := by decide +kernel
theorem dX1_readText_126 : decode cX1_readText 126 = .ok (.ifCond .ne 16, 3) := by decide +kernel
theorem dX1_readText_129 : decode cX1_readText 129 = .ok (.aload_n 0, 1) := by decide +kernel
theorem dX1_readText_130 : decode cX1_readText 130 = .ok (.iload 4, 2) := by decide +kernel
theorem dX1_readText_132 : decode cX1_readText 132 = .ok (.invokevirtual 120, 3) := by decide +kernel
theorem dX1_readText_135 : decode cX1_readText 135 = .ok (.ifCond .eq 7, 3) := by decide +kernel
theorem dX1_readText_138 : decode cX1_readText 138 = .ok (.iconst 1, 1) := by decide +kernel
theorem dX1_readText_139 : decode cX1_readText 139 = .ok (.goto 4, 3) := by decide +kernel
theorem dX1_readText_142 : decode cX1_readText 142 = .ok (.iconst 0, 1) := by decide +kernel
theorem dX1_readText_143 : decode cX1_readText 143 = .ok (.istore 6, 2) := by decide +kernel
theorem dX1_readText_145 : decode cX1_readText 145 = .ok (.iload 6, 2) := by decide +kernel
theorem dX1_readText_147 : decode cX1_readText 147 = .ok (.ifCond .ne 8, 3) := by decide +kernel
theorem dX1_readText_150 : decode cX1_readText 150 = .ok (.aload_n 0, 1) := by decide +kernel
theorem dX1_readText_151 : decode cX1_readText 151 = .ok (.iload_n 3, 1) := by decide +kernel
theorem dX1_readText_152 : decode cX1_readText 152 = .ok (.putfield 15, 3) := by decide +kernel
theorem dX1_readText_155 : decode cX1_readText 155 = .ok (.iinc 3 1, 3) := by decide +kernel
theorem dX1_readText_158 : decode cX1_readText 158 = .ok (.goto (-126), 3) := by decide +kernel
theorem dX1_readText_161 : decode cX1_readText 161 = .ok (.aload_n 0, 1) := by decide +kernel
theorem dX1_readText_162 : decode cX1_readText 162 = .ok (.invokevirtual 107, 3) := by decide +kernel
theorem dX1_readText_165 : decode cX1_readText 165 = .ok (.aload_n 0, 1) := by decide +kernel
theorem dX1_readText_166 : decode cX1_readText 166 = .ok (.getfield 22, 3) := by decide +kernel
theorem dX1_readText_169 : decode cX1_readText 169 = .ok (.ifCond .ne 21, 3) := by decide +kernel
theorem dX1_readText_172 : decode cX1_readText 172 = .ok (.aload_n 0, 1) := by decide +kernel
theorem dX1_readText_173 : decode cX1_readText 173 = .ok (.getfield 44, 3) := by decide +kernel
theorem dX1_readText_176 : decode cX1_readText 176 = .ok (.ifCond .ne 14, 3) := by decide +kernel
theorem dX1_readText_179 : decode cX1_readText 179 = .ok (.aload_n 0, 1) := by decide +kernel
theorem dX1_readText_180 : decode cX1_readText 180 = .ok (.getfield 19, 3) := by decide +kernel
theorem dX1_readText_183 : decode cX1_readText 183 = .ok (.ifCond .ne 7, 3) := by decide +kernel
theorem dX1_readText_186 : decode cX1_readText 186 = .ok (.iconst 1, 1) := by decide +kernel
theorem dX1_readText_187 : decode cX1_readText 187 = .ok (.goto 4, 3) := by decide +kernel
theorem dX1_readText_190 : decode cX1_readText 190 = .ok (.iconst 0, 1) := by decide +kernel
theorem dX1_readText_191 : decode cX1_readText 191 = .ok (.istore_n 3, 1) := by decide +kernel
theorem dX1_readText_192 : decode cX1_readText 192 = .ok (.aload_n 0, 1) := by decide +kernel
theorem dX1_readText_193 : decode cX1_readText 193 = .ok (.getfield 15, 3) := by decide +kernel
theorem dX1_readText_196 : decode cX1_readText 196 = .ok (.iconst (-1), 1) := by decide +kernel
theorem dX1_readText_197 : decode cX1_readText 197 = .ok (.if_icmp .ne 12, 3) := by decide +kernel
theorem dX1_readText_200 : decode cX1_readText 200 = .ok (.iload_n 3, 1) := by decide +kernel
theorem dX1_readText_201 : decode cX1_readText 201 = .ok (.ifCond .ne 8, 3) := by decide +kernel
theorem dX1_readText_204 : decode cX1_readText 204 = .ok (.aload_n 0, 1) := by decide +kernel
theorem dX1_readText_205 : decode cX1_readText 205 = .ok (.iload_n 2, 1) := by decide +kernel
theorem dX1_readText_206 : decode cX1_readText 206 = .ok (.putfield 15, 3) := by decide +kernel
theorem dX1_readText_209 : decode cX1_readText 209 = .ok (.return_, 1) := by decide +kernel
theorem dX1_beginSum_0 : decode cX1_beginSum 0 = .ok (.aload_n 0, 1) := by decide +kernel
theorem dX1_beginSum_1 : decode cX1_beginSum 1 = .ok (.iload_n 1, 1) := by decide +kernel
theorem dX1_beginSum_2 : decode cX1_beginSum 2 = .ok (.putfield 19, 3) := by decide +kernel
theorem dX1_beginSum_5 : decode cX1_beginSum 5 = .ok (.aload_n 0, 1) := by decide +kernel
theorem dX1_beginSum_6 : decode cX1_beginSum 6 = .ok (.iconst 0, 1) := by decide +kernel
theorem dX1_beginSum_7 : decode cX1_beginSum 7 = .ok (.putfield 32, 3) := by decide +kernel
theorem dX1_beginSum_10 : decode cX1_beginSum 10 = .ok (.aload_n 0, 1) := by decide +kernel
theorem dX1_beginSum_11 : decode cX1_beginSum 11 = .ok (.iconst 1, 1) := by decide +kernel
theorem dX1_beginSum_12 : decode cX1_beginSum 12 = .ok (.putfield 35, 3) := by decide +kernel
theorem dX1_beginSum_15 : decode cX1_beginSum 15 = .ok (.aload_n 0, 1) := by decide +kernel
theorem dX1_beginSum_16 : decode cX1_beginSum 16 = .ok (.iconst 1, 1) := by decide +kernel
theorem dX1_beginSum_17 : decode cX1_beginSum 17 = .ok (.putfield 22, 3) := by decide +kernel
theorem dX1_beginSum_20 : decode cX1_beginSum 20 = .ok (.return_, 1) := by decide +kernel
theorem dX1_takesDigit_0 : decode cX1_takesDigit 0 = .ok (.aload_n 0, 1) := by decide +kernel
theorem dX1_takesDigit_1 : decode cX1_takesDigit 1 = .ok (.getfield 22, 3) := by decide +kernel
theorem dX1_takesDigit_4 : decode cX1_takesDigit 4 = .ok (.ifCond .eq 12, 3) := by decide +kernel
theorem dX1_takesDigit_7 : decode cX1_takesDigit 7 = .ok (.aload_n 0, 1) := by decide +kernel
theorem dX1_takesDigit_8 : decode cX1_takesDigit 8 = .ok (.getfield 29, 3) := by decide +kernel
theorem dX1_takesDigit_11 : decode cX1_takesDigit 11 = .ok (.bipush 7, 2) := by decide +kernel
theorem dX1_takesDigit_13 : decode cX1_takesDigit 13 = .ok (.if_icmp .ne 5, 3) := by decide +kernel
theorem dX1_takesDigit_16 : decode cX1_takesDigit 16 = .ok (.iconst 0, 1) := by decide +kernel
theorem dX1_takesDigit_17 : decode cX1_takesDigit 17 = .ok (.ireturn, 1) := by decide +kernel
theorem dX1_takesDigit_18 : decode cX1_takesDigit 18 = .ok (.aload_n 0, 1) := by decide +kernel
theorem dX1_takesDigit_19 : decode cX1_takesDigit 19 = .ok (.aload_n 0, 1) := by decide +kernel
theorem dX1_takesDigit_20 : decode cX1_takesDigit 20 = .ok (.getfield 29, 3) := by decide +kernel
theorem dX1_takesDigit_23 : decode cX1_takesDigit 23 = .ok (.ifCond .ne 7, 3) := by decide +kernel
theorem dX1_takesDigit_26 : decode cX1_takesDigit 26 = .ok (.iload_n 1, 1) := by decide +kernel
theorem dX1_takesDigit_27 : decode cX1_takesDigit 27 = .ok (.goto 12, 3) := by decide +kernel
theorem dX1_takesDigit_30 : decode cX1_takesDigit 30 = .ok (.bipush 10, 2) := by decide +kernel
theorem dX1_takesDigit_32 : decode cX1_takesDigit 32 = .ok (.aload_n 0, 1) := by decide +kernel
theorem dX1_takesDigit_33 : decode cX1_takesDigit 33 = .ok (.getfield 26, 3) := by decide +kernel
theorem dX1_takesDigit_36 : decode cX1_takesDigit 36 = .ok (.imul, 1) := by decide +kernel
theorem dX1_takesDigit_37 : decode cX1_takesDigit 37 = .ok (.iload_n 1, 1) := by decide +kernel
theorem dX1_takesDigit_38 : decode cX1_takesDigit 38 = .ok (.iadd, 1) := by decide +kernel
theorem dX1_takesDigit_39 : decode cX1_takesDigit 39 = .ok (.putfield 26, 3) := by decide +kernel
theorem dX1_takesDigit_42 : decode cX1_takesDigit 42 = .ok (.aload_n 0, 1) := by decide +kernel
theorem dX1_takesDigit_43 : decode cX1_takesDigit 43 = .ok (.dup, 1) := by decide +kernel
theorem dX1_takesDigit_44 : decode cX1_takesDigit 44 = .ok (.getfield 29, 3) := by decide +kernel
theorem dX1_takesDigit_47 : decode cX1_takesDigit 47 = .ok (.iconst 1, 1) := by decide +kernel
theorem dX1_takesDigit_48 : decode cX1_takesDigit 48 = .ok (.iadd, 1) := by decide +kernel
theorem dX1_takesDigit_49 : decode cX1_takesDigit 49 = .ok (.putfield 29, 3) := by decide +kernel
theorem dX1_takesDigit_52 : decode cX1_takesDigit 52 = .ok (.iconst 1, 1) := by decide +kernel
theorem dX1_takesDigit_53 : decode cX1_takesDigit 53 = .ok (.ireturn, 1) := by decide +kernel
theorem dX1_endNumber_0 : decode cX1_endNumber 0 = .ok (.aload_n 0, 1) := by decide +kernel
theorem dX1_endNumber_1 : decode cX1_endNumber 1 = .ok (.getfield 29, 3) := by decide +kernel
theorem dX1_endNumber_4 : decode cX1_endNumber 4 = .ok (.ifCond .le 16, 3) := by decide +kernel
theorem dX1_endNumber_7 : decode cX1_endNumber 7 = .ok (.aload_n 0, 1) := by decide +kernel
theorem dX1_endNumber_8 : decode cX1_endNumber 8 = .ok (.iconst 0, 1) := by decide +kernel
theorem dX1_endNumber_9 : decode cX1_endNumber 9 = .ok (.putfield 29, 3) := by decide +kernel
theorem dX1_endNumber_12 : decode cX1_endNumber 12 = .ok (.aload_n 0, 1) := by decide +kernel
theorem dX1_endNumber_13 : decode cX1_endNumber 13 = .ok (.aload_n 0, 1) := by decide +kernel
theorem dX1_endNumber_14 : decode cX1_endNumber 14 = .ok (.getfield 26, 3) := by decide +kernel
theorem dX1_endNumber_17 : decode cX1_endNumber 17 = .ok (.invokevirtual 123, 3) := by decide +kernel
theorem dX1_endNumber_20 : decode cX1_endNumber 20 = .ok (.return_, 1) := by decide +kernel
theorem dX1_takesInPart_0 : decode cX1_takesInPart 0 = .ok (.iload_n 1, 1) := by decide +kernel
theorem dX1_takesInPart_1 : decode cX1_takesInPart 1 = .ok (.invokestatic 126, 3) := by decide +kernel
theorem dX1_takesInPart_4 : decode cX1_takesInPart 4 = .ok (.istore_n 2, 1) := by decide +kernel
theorem dX1_takesInPart_5 : decode cX1_takesInPart 5 = .ok (.iload_n 2, 1) := by decide +kernel
theorem dX1_takesInPart_6 : decode cX1_takesInPart 6 = .ok (.iconst (-1), 1) := by decide +kernel
theorem dX1_takesInPart_7 : decode cX1_takesInPart 7 = .ok (.if_icmp .eq 15, 3) := by decide +kernel
theorem dX1_takesInPart_10 : decode cX1_takesInPart 10 = .ok (.aload_n 0, 1) := by decide +kernel
theorem dX1_takesInPart_11 : decode cX1_takesInPart 11 = .ok (.aload_n 0, 1) := by decide +kernel
theorem dX1_takesInPart_12 : decode cX1_takesInPart 12 = .ok (.getfield 11, 3) := by decide +kernel
theorem dX1_takesInPart_15 : decode cX1_takesInPart 15 = .ok (.iload_n 2, 1) := by decide +kernel
theorem dX1_takesInPart_16 : decode cX1_takesInPart 16 = .ok (.iaload, 1) := by decide +kernel
theorem dX1_takesInPart_17 : decode cX1_takesInPart 17 = .ok (.invokevirtual 123, 3) := by decide +kernel
theorem dX1_takesInPart_20 : decode cX1_takesInPart 20 = .ok (.iconst 1, 1) := by decide +kernel
theorem dX1_takesInPart_21 : decode cX1_takesInPart 21 = .ok (.ireturn, 1) := by decide +kernel
theorem dX1_takesInPart_22 : decode cX1_takesInPart 22 = .ok (.iload_n 1, 1) := by decide +kernel
theorem dX1_takesInPart_23 : decode cX1_takesInPart 23 = .ok (.bipush 45, 2) := by decide +kernel
theorem dX1_takesInPart_25 : decode cX1_takesInPart 25 = .ok (.if_icmp .eq 9, 3) := by decide +kernel
theorem dX1_takesInPart_28 : decode cX1_takesInPart 28 = .ok (.iload_n 1, 1) := by decide +kernel
theorem dX1_takesInPart_29 : decode cX1_takesInPart 29 = .ok (.bipush 40, 2) := by decide +kernel
theorem dX1_takesInPart_31 : decode cX1_takesInPart 31 = .ok (.if_icmp .ne 11, 3) := by decide +kernel
theorem dX1_takesInPart_34 : decode cX1_takesInPart 34 = .ok (.aload_n 0, 1) := by decide +kernel
theorem dX1_takesInPart_35 : decode cX1_takesInPart 35 = .ok (.getfield 44, 3) := by decide +kernel
theorem dX1_takesInPart_38 : decode cX1_takesInPart 38 = .ok (.iconst 5, 1) := by decide +kernel
theorem dX1_takesInPart_39 : decode cX1_takesInPart 39 = .ok (.if_icmp .lt 5, 3) := by decide +kernel
theorem dX1_takesInPart_42 : decode cX1_takesInPart 42 = .ok (.iconst 0, 1) := by decide +kernel
theorem dX1_takesInPart_43 : decode cX1_takesInPart 43 = .ok (.ireturn, 1) := by decide +kernel
theorem dX1_takesInPart_44 : decode cX1_takesInPart 44 = .ok (.aload_n 0, 1) := by decide +kernel
theorem dX1_takesInPart_45 : decode cX1_takesInPart 45 = .ok (.getfield 38, 3) := by decide +kernel
theorem dX1_takesInPart_48 : decode cX1_takesInPart 48 = .ok (.aload_n 0, 1) := by decide +kernel
theorem dX1_takesInPart_49 : decode cX1_takesInPart 49 = .ok (.getfield 44, 3) := by decide +kernel
theorem dX1_takesInPart_52 : decode cX1_takesInPart 52 = .ok (.aload_n 0, 1) := by decide +kernel
theorem dX1_takesInPart_53 : decode cX1_takesInPart 53 = .ok (.getfield 32, 3) := by decide +kernel
theorem dX1_takesInPart_56 : decode cX1_takesInPart 56 = .ok (.iastore, 1) := by decide +kernel
theorem dX1_takesInPart_57 : decode cX1_takesInPart 57 = .ok (.aload_n 0, 1) := by decide +kernel
theorem dX1_takesInPart_58 : decode cX1_takesInPart 58 = .ok (.getfield 41, 3) := by decide +kernel
theorem dX1_takesInPart_61 : decode cX1_takesInPart 61 = .ok (.aload_n 0, 1) := by decide +kernel
theorem dX1_takesInPart_62 : decode cX1_takesInPart 62 = .ok (.getfield 44, 3) := by decide +kernel
theorem dX1_takesInPart_65 : decode cX1_takesInPart 65 = .ok (.iload_n 1, 1) := by decide +kernel
theorem dX1_takesInPart_66 : decode cX1_takesInPart 66 = .ok (.bipush 45, 2) := by decide +kernel
theorem dX1_takesInPart_68 : decode cX1_takesInPart 68 = .ok (.if_icmp .ne 7, 3) := by decide +kernel
theorem dX1_takesInPart_71 : decode cX1_takesInPart 71 = .ok (.iconst 0, 1) := by decide +kernel
theorem dX1_takesInPart_72 : decode cX1_takesInPart 72 = .ok (.goto 7, 3) := by decide +kernel
theorem dX1_takesInPart_75 : decode cX1_takesInPart 75 = .ok (.aload_n 0, 1) := by decide +kernel
theorem dX1_takesInPart_76 : decode cX1_takesInPart 76 = .ok (.getfield 35, 3) := by decide +kernel
theorem dX1_takesInPart_79 : decode cX1_takesInPart 79 = .ok (.iastore, 1) := by decide +kernel
theorem dX1_takesInPart_80 : decode cX1_takesInPart 80 = .ok (.aload_n 0, 1) := by decide +kernel
theorem dX1_takesInPart_81 : decode cX1_takesInPart 81 = .ok (.dup, 1) := by decide +kernel
theorem dX1_takesInPart_82 : decode cX1_takesInPart 82 = .ok (.getfield 44, 3) := by decide +kernel
theorem dX1_takesInPart_85 : decode cX1_takesInPart 85 = .ok (.iconst 1, 1) := by decide +kernel
theorem dX1_takesInPart_86 : decode cX1_takesInPart 86 = .ok (.iadd, 1) := by decide +kernel
theorem dX1_takesInPart_87 : decode cX1_takesInPart 87 = .ok (.putfield 44, 3) := by decide +kernel
theorem dX1_takesInPart_90 : decode cX1_takesInPart 90 = .ok (.iload_n 1, 1) := by decide +kernel
theorem dX1_takesInPart_91 : decode cX1_takesInPart 91 = .ok (.bipush 40, 2) := by decide +kernel
theorem dX1_takesInPart_93 : decode cX1_takesInPart 93 = .ok (.if_icmp .ne 13, 3) := by decide +kernel
theorem dX1_takesInPart_96 : decode cX1_takesInPart 96 = .ok (.aload_n 0, 1) := by decide +kernel
theorem dX1_takesInPart_97 : decode cX1_takesInPart 97 = .ok (.iconst 0, 1) := by decide +kernel
theorem dX1_takesInPart_98 : decode cX1_takesInPart 98 = .ok (.putfield 32, 3) := by decide +kernel
theorem dX1_takesInPart_101 : decode cX1_takesInPart 101 = .ok (.aload_n 0, 1) := by decide +kernel
theorem dX1_takesInPart_102 : decode cX1_takesInPart 102 = .ok (.iconst 1, 1) := by decide +kernel
theorem dX1_takesInPart_103 : decode cX1_takesInPart 103 = .ok (.putfield 35, 3) := by decide +kernel
theorem dX1_takesInPart_106 : decode cX1_takesInPart 106 = .ok (.iconst 1, 1) := by decide +kernel
theorem dX1_takesInPart_107 : decode cX1_takesInPart 107 = .ok (.ireturn, 1) := by decide +kernel
theorem dX1_endPart_0 : decode cX1_endPart 0 = .ok (.iload_n 1, 1) := by decide +kernel
theorem dX1_endPart_1 : decode cX1_endPart 1 = .ok (.istore_n 2, 1) := by decide +kernel
theorem dX1_endPart_2 : decode cX1_endPart 2 = .ok (.aload_n 0, 1) := by decide +kernel
theorem dX1_endPart_3 : decode cX1_endPart 3 = .ok (.getfield 44, 3) := by decide +kernel
theorem dX1_endPart_6 : decode cX1_endPart 6 = .ok (.ifCond .le 33, 3) := by decide +kernel
theorem dX1_endPart_9 : decode cX1_endPart 9 = .ok (.aload_n 0, 1) := by decide +kernel
theorem dX1_endPart_10 : decode cX1_endPart 10 = .ok (.getfield 41, 3) := by decide +kernel
theorem dX1_endPart_13 : decode cX1_endPart 13 = .ok (.aload_n 0, 1) := by decide +kernel
theorem dX1_endPart_14 : decode cX1_endPart 14 = .ok (.getfield 44, 3) := by decide +kernel
theorem dX1_endPart_17 : decode cX1_endPart 17 = .ok (.iconst 1, 1) := by decide +kernel
theorem dX1_endPart_18 : decode cX1_endPart 18 = .ok (.isub, 1) := by decide +kernel
theorem dX1_endPart_19 : decode cX1_endPart 19 = .ok (.iaload, 1) := by decide +kernel
theorem dX1_endPart_20 : decode cX1_endPart 20 = .ok (.ifCond .ne 19, 3) := by decide +kernel
theorem dX1_endPart_23 : decode cX1_endPart 23 = .ok (.iload_n 2, 1) := by decide +kernel
theorem dX1_endPart_24 : decode cX1_endPart 24 = .ok (.ineg, 1) := by decide +kernel
theorem dX1_endPart_25 : decode cX1_endPart 25 = .ok (.istore_n 2, 1) := by decide +kernel
theorem dX1_endPart_26 : decode cX1_endPart 26 = .ok (.aload_n 0, 1) := by decide +kernel
theorem dX1_endPart_27 : decode cX1_endPart 27 = .ok (.dup, 1) := by decide +kernel
theorem dX1_endPart_28 : decode cX1_endPart 28 = .ok (.getfield 44, 3) := by decide +kernel
theorem dX1_endPart_31 : decode cX1_endPart 31 = .ok (.iconst 1, 1) := by decide +kernel
theorem dX1_endPart_32 : decode cX1_endPart 32 = .ok (.isub, 1) := by decide +kernel
theorem dX1_endPart_33 : decode cX1_endPart 33 = .ok (.putfield 44, 3) := by decide +kernel
theorem dX1_endPart_36 : decode cX1_endPart 36 = .ok (.goto (-34), 3) := by decide +kernel
theorem dX1_endPart_39 : decode cX1_endPart 39 = .ok (.aload_n 0, 1) := by decide +kernel
theorem dX1_endPart_40 : decode cX1_endPart 40 = .ok (.dup, 1) := by decide +kernel
theorem dX1_endPart_41 : decode cX1_endPart 41 = .ok (.getfield 32, 3) := by decide +kernel
theorem dX1_endPart_44 : decode cX1_endPart 44 = .ok (.aload_n 0, 1) := by decide +kernel
theorem dX1_endPart_45 : decode cX1_endPart 45 = .ok (.getfield 35, 3) := by decide +kernel
theorem dX1_endPart_48 : decode cX1_endPart 48 = .ok (.iload_n 2, 1) := by decide +kernel
theorem dX1_endPart_49 : decode cX1_endPart 49 = .ok (.imul, 1) := by decide +kernel
theorem dX1_endPart_50 : decode cX1_endPart 50 = .ok (.iadd, 1) := by decide +kernel
theorem dX1_endPart_51 : decode cX1_endPart 51 = .ok (.putfield 32, 3) := by decide +kernel
theorem dX1_endPart_54 : decode cX1_endPart 54 = .ok (.aload_n 0, 1) := by decide +kernel
theorem dX1_endPart_55 : decode cX1_endPart 55 = .ok (.iconst 0, 1) := by decide +kernel
theorem dX1_endPart_56 : decode cX1_endPart 56 = .ok (.putfield 22, 3) := by decide +kernel
theorem dX1_endPart_59 : decode cX1_endPart 59 = .ok (.return_, 1) := by decide +kernel
theorem dX1_takesBehindPart_0 : decode cX1_takesBehindPart 0 = .ok (.iload_n 1, 1) := by decide +kernel
theorem dX1_takesBehindPart_1 : decode cX1_takesBehindPart 1 = .ok (.bipush 43, 2) := by decide +kernel
theorem dX1_takesBehindPart_3 : decode cX1_takesBehindPart 3 = .ok (.if_icmp .eq 9, 3) := by decide +kernel
theorem dX1_takesBehindPart_6 : decode cX1_takesBehindPart 6 = .ok (.iload_n 1, 1) := by decide +kernel
theorem dX1_takesBehindPart_7 : decode cX1_takesBehindPart 7 = .ok (.bipush 45, 2) := by decide +kernel
theorem dX1_takesBehindPart_9 : decode cX1_takesBehindPart 9 = .ok (.if_icmp .ne 25, 3) := by decide +kernel
theorem dX1_takesBehindPart_12 : decode cX1_takesBehindPart 12 = .ok (.aload_n 0, 1) := by decide +kernel
theorem dX1_takesBehindPart_13 : decode cX1_takesBehindPart 13 = .ok (.iload_n 1, 1) := by decide +kernel
theorem dX1_takesBehindPart_14 : decode cX1_takesBehindPart 14 = .ok (.bipush 43, 2) := by decide +kernel
theorem dX1_takesBehindPart_16 : decode cX1_takesBehindPart 16 = .ok (.if_icmp .ne 7, 3) := by decide +kernel
theorem dX1_takesBehindPart_19 : decode cX1_takesBehindPart 19 = .ok (.iconst 1, 1) := by decide +kernel
theorem dX1_takesBehindPart_20 : decode cX1_takesBehindPart 20 = .ok (.goto 4, 3) := by decide +kernel
theorem dX1_takesBehindPart_23 : decode cX1_takesBehindPart 23 = .ok (.iconst (-1), 1) := by decide +kernel
theorem dX1_takesBehindPart_24 : decode cX1_takesBehindPart 24 = .ok (.putfield 35, 3) := by decide +kernel
theorem dX1_takesBehindPart_27 : decode cX1_takesBehindPart 27 = .ok (.aload_n 0, 1) := by decide +kernel
theorem dX1_takesBehindPart_28 : decode cX1_takesBehindPart 28 = .ok (.iconst 1, 1) := by decide +kernel
theorem dX1_takesBehindPart_29 : decode cX1_takesBehindPart 29 = .ok (.putfield 22, 3) := by decide +kernel
theorem dX1_takesBehindPart_32 : decode cX1_takesBehindPart 32 = .ok (.iconst 1, 1) := by decide +kernel
theorem dX1_takesBehindPart_33 : decode cX1_takesBehindPart 33 = .ok (.ireturn, 1) := by decide +kernel
theorem dX1_takesBehindPart_34 : decode cX1_takesBehindPart 34 = .ok (.iload_n 1, 1) := by decide +kernel
theorem dX1_takesBehindPart_35 : decode cX1_takesBehindPart 35 = .ok (.bipush 41, 2) := by decide +kernel
theorem dX1_takesBehindPart_37 : decode cX1_takesBehindPart 37 = .ok (.if_icmp .ne 10, 3) := by decide +kernel
theorem dX1_takesBehindPart_40 : decode cX1_takesBehindPart 40 = .ok (.aload_n 0, 1) := by decide +kernel
theorem dX1_takesBehindPart_41 : decode cX1_takesBehindPart 41 = .ok (.getfield 44, 3) := by decide +kernel
theorem dX1_takesBehindPart_44 : decode cX1_takesBehindPart 44 = .ok (.ifCond .ne 5, 3) := by decide +kernel
theorem dX1_takesBehindPart_47 : decode cX1_takesBehindPart 47 = .ok (.iconst 0, 1) := by decide +kernel
theorem dX1_takesBehindPart_48 : decode cX1_takesBehindPart 48 = .ok (.ireturn, 1) := by decide +kernel
theorem dX1_takesBehindPart_49 : decode cX1_takesBehindPart 49 = .ok (.aload_n 0, 1) := by decide +kernel
theorem dX1_takesBehindPart_50 : decode cX1_takesBehindPart 50 = .ok (.dup, 1) := by decide +kernel
theorem dX1_takesBehindPart_51 : decode cX1_takesBehindPart 51 = .ok (.getfield 44, 3) := by decide +kernel
theorem dX1_takesBehindPart_54 : decode cX1_takesBehindPart 54 = .ok (.iconst 1, 1) := by decide +kernel
theorem dX1_takesBehindPart_55 : decode cX1_takesBehindPart 55 = .ok (.isub, 1) := by decide +kernel
theorem dX1_takesBehindPart_56 : decode cX1_takesBehindPart 56 = .ok (.putfield 44, 3) := by decide +kernel
theorem dX1_takesBehindPart_59 : decode cX1_takesBehindPart 59 = .ok (.aload_n 0, 1) := by decide +kernel
theorem dX1_takesBehindPart_60 : decode cX1_takesBehindPart 60 = .ok (.getfield 32, 3) := by decide +kernel
theorem dX1_takesBehindPart_63 : decode cX1_takesBehindPart 63 = .ok (.istore_n 2, 1) := by decide +kernel
theorem dX1_takesBehindPart_64 : decode cX1_takesBehindPart 64 = .ok (.aload_n 0, 1) := by decide +kernel
theorem dX1_takesBehindPart_65 : decode cX1_takesBehindPart 65 = .ok (.aload_n 0, 1) := by decide +kernel
theorem dX1_takesBehindPart_66 : decode cX1_takesBehindPart 66 = .ok (.getfield 38, 3) := by decide +kernel
theorem dX1_takesBehindPart_69 : decode cX1_takesBehindPart 69 = .ok (.aload_n 0, 1) := by decide +kernel
theorem dX1_takesBehindPart_70 : decode cX1_takesBehindPart 70 = .ok (.getfield 44, 3) := by decide +kernel
theorem dX1_takesBehindPart_73 : decode cX1_takesBehindPart 73 = .ok (.iaload, 1) := by decide +kernel
theorem dX1_takesBehindPart_74 : decode cX1_takesBehindPart 74 = .ok (.putfield 32, 3) := by decide +kernel
theorem dX1_takesBehindPart_77 : decode cX1_takesBehindPart 77 = .ok (.aload_n 0, 1) := by decide +kernel
theorem dX1_takesBehindPart_78 : decode cX1_takesBehindPart 78 = .ok (.aload_n 0, 1) := by decide +kernel
theorem dX1_takesBehindPart_79 : decode cX1_takesBehindPart 79 = .ok (.getfield 41, 3) := by decide +kernel
theorem dX1_takesBehindPart_82 : decode cX1_takesBehindPart 82 = .ok (.aload_n 0, 1) := by decide +kernel
theorem dX1_takesBehindPart_83 : decode cX1_takesBehindPart 83 = .ok (.getfield 44, 3) := by decide +kernel
theorem dX1_takesBehindPart_86 : decode cX1_takesBehindPart 86 = .ok (.iaload, 1) := by decide +kernel
theorem dX1_takesBehindPart_87 : decode cX1_takesBehindPart 87 = .ok (.putfield 35, 3) := by decide +kernel
theorem dX1_takesBehindPart_90 : decode cX1_takesBehindPart 90 = .ok (.aload_n 0, 1) := by decide +kernel
theorem dX1_takesBehindPart_91 : decode cX1_takesBehindPart 91 = .ok (.iload_n 2, 1) := by decide +kernel
theorem dX1_takesBehindPart_92 : decode cX1_takesBehindPart 92 = .ok (.invokevirtual 123, 3) := by decide +kernel
theorem dX1_takesBehindPart_95 : decode cX1_takesBehindPart 95 = .ok (.iconst 1, 1) := by decide +kernel
theorem dX1_takesBehindPart_96 : decode cX1_takesBehindPart 96 = .ok (.ireturn, 1) := by decide +kernel
theorem dX1_takesBehindSum_0 : decode cX1_takesBehindSum 0 = .ok (.aload_n 0, 1) := by decide +kernel
theorem dX1_takesBehindSum_1 : decode cX1_takesBehindSum 1 = .ok (.iload_n 1, 1) := by decide +kernel
theorem dX1_takesBehindSum_2 : decode cX1_takesBehindSum 2 = .ok (.invokevirtual 130, 3) := by decide +kernel
theorem dX1_takesBehindSum_5 : decode cX1_takesBehindSum 5 = .ok (.istore_n 2, 1) := by decide +kernel
theorem dX1_takesBehindSum_6 : decode cX1_takesBehindSum 6 = .ok (.iload_n 2, 1) := by decide +kernel
theorem dX1_takesBehindSum_7 : decode cX1_takesBehindSum 7 = .ok (.iconst (-1), 1) := by decide +kernel
theorem dX1_takesBehindSum_8 : decode cX1_takesBehindSum 8 = .ok (.if_icmp .ne 5, 3) := by decide +kernel
theorem dX1_takesBehindSum_11 : decode cX1_takesBehindSum 11 = .ok (.iconst 0, 1) := by decide +kernel
theorem dX1_takesBehindSum_12 : decode cX1_takesBehindSum 12 = .ok (.ireturn, 1) := by decide +kernel
theorem dX1_takesBehindSum_13 : decode cX1_takesBehindSum 13 = .ok (.aload_n 0, 1) := by decide +kernel
theorem dX1_takesBehindSum_14 : decode cX1_takesBehindSum 14 = .ok (.getfield 19, 3) := by decide +kernel
theorem dX1_takesBehindSum_17 : decode cX1_takesBehindSum 17 = .ok (.lookupswitch 113 #[(1, 27), (3, 53)], 27) := by decide +kernel
theorem dX1_takesBehindSum_44 : decode cX1_takesBehindSum 44 = .ok (.aload_n 0, 1) := by decide +kernel
theorem dX1_takesBehindSum_45 : decode cX1_takesBehindSum 45 = .ok (.aload_n 0, 1) := by decide +kernel
theorem dX1_takesBehindSum_46 : decode cX1_takesBehindSum 46 = .ok (.getfield 53, 3) := by decide +kernel
theorem dX1_takesBehindSum_49 : decode cX1_takesBehindSum 49 = .ok (.ifCond .eq 14, 3) := by decide +kernel
theorem dX1_takesBehindSum_52 : decode cX1_takesBehindSum 52 = .ok (.aload_n 0, 1) := by decide +kernel
theorem dX1_takesBehindSum_53 : decode cX1_takesBehindSum 53 = .ok (.invokevirtual 133, 3) := by decide +kernel
theorem dX1_takesBehindSum_56 : decode cX1_takesBehindSum 56 = .ok (.ifCond .eq 7, 3) := by decide +kernel
theorem dX1_takesBehindSum_59 : decode cX1_takesBehindSum 59 = .ok (.iconst 1, 1) := by decide +kernel
theorem dX1_takesBehindSum_60 : decode cX1_takesBehindSum 60 = .ok (.goto 4, 3) := by decide +kernel
theorem dX1_takesBehindSum_63 : decode cX1_takesBehindSum 63 = .ok (.iconst 0, 1) := by decide +kernel
theorem dX1_takesBehindSum_64 : decode cX1_takesBehindSum 64 = .ok (.putfield 53, 3) := by decide +kernel
theorem dX1_takesBehindSum_67 : decode cX1_takesBehindSum 67 = .ok (.goto 76, 3) := by decide +kernel
theorem dX1_takesBehindSum_70 : decode cX1_takesBehindSum 70 = .ok (.aload_n 0, 1) := by decide +kernel
theorem dX1_takesBehindSum_71 : decode cX1_takesBehindSum 71 = .ok (.aload_n 0, 1) := by decide +kernel
theorem dX1_takesBehindSum_72 : decode cX1_takesBehindSum 72 = .ok (.getfield 53, 3) := by decide +kernel
theorem dX1_takesBehindSum_75 : decode cX1_takesBehindSum 75 = .ok (.ifCond .eq 17, 3) := by decide +kernel
theorem dX1_takesBehindSum_78 : decode cX1_takesBehindSum 78 = .ok (.aload_n 0, 1) := by decide +kernel
theorem dX1_takesBehindSum_79 : decode cX1_takesBehindSum 79 = .ok (.getfield 56, 3) := by decide +kernel
theorem dX1_takesBehindSum_82 : decode cX1_takesBehindSum 82 = .ok (.ifCond .ne 10, 3) := by decide +kernel
theorem dX1_takesBehindSum_85 : decode cX1_takesBehindSum 85 = .ok (.aload_n 0, 1) := by decide +kernel
theorem dX1_takesBehindSum_86 : decode cX1_takesBehindSum 86 = .ok (.getfield 32, 3) := by decide +kernel
theorem dX1_takesBehindSum_89 : decode cX1_takesBehindSum 89 = .ok (.goto 7, 3) := by decide +kernel
theorem dX1_takesBehindSum_92 : decode cX1_takesBehindSum 92 = .ok (.aload_n 0, 1) := by decide +kernel
theorem dX1_takesBehindSum_93 : decode cX1_takesBehindSum 93 = .ok (.getfield 59, 3) := by decide +kernel
theorem dX1_takesBehindSum_96 : decode cX1_takesBehindSum 96 = .ok (.putfield 59, 3) := by decide +kernel
theorem dX1_takesBehindSum_99 : decode cX1_takesBehindSum 99 = .ok (.aload_n 0, 1) := by decide +kernel
theorem dX1_takesBehindSum_100 : decode cX1_takesBehindSum 100 = .ok (.aload_n 0, 1) := by decide +kernel
theorem dX1_takesBehindSum_101 : decode cX1_takesBehindSum 101 = .ok (.getfield 56, 3) := by decide +kernel
theorem dX1_takesBehindSum_104 : decode cX1_takesBehindSum 104 = .ok (.ifCond .ne 10, 3) := by decide +kernel
theorem dX1_takesBehindSum_107 : decode cX1_takesBehindSum 107 = .ok (.aload_n 0, 1) := by decide +kernel
theorem dX1_takesBehindSum_108 : decode cX1_takesBehindSum 108 = .ok (.getfield 53, 3) := by decide +kernel
theorem dX1_takesBehindSum_111 : decode cX1_takesBehindSum 111 = .ok (.ifCond .eq 7, 3) := by decide +kernel
theorem dX1_takesBehindSum_114 : decode cX1_takesBehindSum 114 = .ok (.iconst 1, 1) := by decide +kernel
theorem dX1_takesBehindSum_115 : decode cX1_takesBehindSum 115 = .ok (.goto 4, 3) := by decide +kernel
theorem dX1_takesBehindSum_118 : decode cX1_takesBehindSum 118 = .ok (.iconst 0, 1) := by decide +kernel
theorem dX1_takesBehindSum_119 : decode cX1_takesBehindSum 119 = .ok (.putfield 56, 3) := by decide +kernel
theorem dX1_takesBehindSum_122 : decode cX1_takesBehindSum 122 = .ok (.aload_n 0, 1) := by decide +kernel
theorem dX1_takesBehindSum_123 : decode cX1_takesBehindSum 123 = .ok (.iconst 1, 1) := by decide +kernel
theorem dX1_takesBehindSum_124 : decode cX1_takesBehindSum 124 = .ok (.putfield 53, 3) := by decide +kernel
theorem dX1_takesBehindSum_127 : decode cX1_takesBehindSum 127 = .ok (.goto 16, 3) := by decide +kernel
theorem dX1_takesBehindSum_130 : decode cX1_takesBehindSum 130 = .ok (.aload_n 0, 1) := by decide +kernel
theorem dX1_takesBehindSum_131 : decode cX1_takesBehindSum 131 = .ok (.aload_n 0, 1) := by decide +kernel
theorem dX1_takesBehindSum_132 : decode cX1_takesBehindSum 132 = .ok (.getfield 32, 3) := by decide +kernel
theorem dX1_takesBehindSum_135 : decode cX1_takesBehindSum 135 = .ok (.putfield 47, 3) := by decide +kernel
theorem dX1_takesBehindSum_138 : decode cX1_takesBehindSum 138 = .ok (.aload_n 0, 1) := by decide +kernel
theorem dX1_takesBehindSum_139 : decode cX1_takesBehindSum 139 = .ok (.iload_n 1, 1) := by decide +kernel
theorem dX1_takesBehindSum_140 : decode cX1_takesBehindSum 140 = .ok (.putfield 50, 3) := by decide +kernel
theorem dX1_takesBehindSum_143 : decode cX1_takesBehindSum 143 = .ok (.aload_n 0, 1) := by decide +kernel
theorem dX1_takesBehindSum_144 : decode cX1_takesBehindSum 144 = .ok (.iload_n 2, 1) := by decide +kernel
theorem dX1_takesBehindSum_145 : decode cX1_takesBehindSum 145 = .ok (.invokevirtual 103, 3) := by decide +kernel
theorem dX1_takesBehindSum_148 : decode cX1_takesBehindSum 148 = .ok (.iconst 1, 1) := by decide +kernel
theorem dX1_takesBehindSum_149 : decode cX1_takesBehindSum 149 = .ok (.ireturn, 1) := by decide +kernel
theorem dX1_placeBehind_0 : decode cX1_placeBehind 0 = .ok (.iload_n 1, 1) := by decide +kernel
theorem dX1_placeBehind_1 : decode cX1_placeBehind 1 = .ok (.lookupswitch 122 #[(38, 80), (58, 108), (60, 59), (61, 59), (62, 59), (63, 94)], 59) := by decide +kernel
theorem dX1_placeBehind_60 : decode cX1_placeBehind 60 = .ok (.aload_n 0, 1) := by decide +kernel
theorem dX1_placeBehind_61 : decode cX1_placeBehind 61 = .ok (.getfield 19, 3) := by decide +kernel
theorem dX1_placeBehind_64 : decode cX1_placeBehind 64 = .ok (.ifCond .eq 11, 3) := by decide +kernel
theorem dX1_placeBehind_67 : decode cX1_placeBehind 67 = .ok (.aload_n 0, 1) := by decide +kernel
theorem dX1_placeBehind_68 : decode cX1_placeBehind 68 = .ok (.getfield 19, 3) := by decide +kernel
theorem dX1_placeBehind_71 : decode cX1_placeBehind 71 = .ok (.iconst 2, 1) := by decide +kernel
theorem dX1_placeBehind_72 : decode cX1_placeBehind 72 = .ok (.if_icmp .ne 7, 3) := by decide +kernel
theorem dX1_placeBehind_75 : decode cX1_placeBehind 75 = .ok (.iconst 1, 1) := by decide +kernel
theorem dX1_placeBehind_76 : decode cX1_placeBehind 76 = .ok (.goto 4, 3) := by decide +kernel
theorem dX1_placeBehind_79 : decode cX1_placeBehind 79 = .ok (.iconst (-1), 1) := by decide +kernel
theorem dX1_placeBehind_80 : decode cX1_placeBehind 80 = .ok (.ireturn, 1) := by decide +kernel
theorem dX1_placeBehind_81 : decode cX1_placeBehind 81 = .ok (.aload_n 0, 1) := by decide +kernel
theorem dX1_placeBehind_82 : decode cX1_placeBehind 82 = .ok (.getfield 19, 3) := by decide +kernel
theorem dX1_placeBehind_85 : decode cX1_placeBehind 85 = .ok (.iconst 1, 1) := by decide +kernel
theorem dX1_placeBehind_86 : decode cX1_placeBehind 86 = .ok (.if_icmp .ne 7, 3) := by decide +kernel
theorem dX1_placeBehind_89 : decode cX1_placeBehind 89 = .ok (.iconst 2, 1) := by decide +kernel
theorem dX1_placeBehind_90 : decode cX1_placeBehind 90 = .ok (.goto 4, 3) := by decide +kernel
theorem dX1_placeBehind_93 : decode cX1_placeBehind 93 = .ok (.iconst (-1), 1) := by decide +kernel
theorem dX1_placeBehind_94 : decode cX1_placeBehind 94 = .ok (.ireturn, 1) := by decide +kernel
theorem dX1_placeBehind_95 : decode cX1_placeBehind 95 = .ok (.aload_n 0, 1) := by decide +kernel
theorem dX1_placeBehind_96 : decode cX1_placeBehind 96 = .ok (.getfield 19, 3) := by decide +kernel
theorem dX1_placeBehind_99 : decode cX1_placeBehind 99 = .ok (.iconst 1, 1) := by decide +kernel
theorem dX1_placeBehind_100 : decode cX1_placeBehind 100 = .ok (.if_icmp .ne 7, 3) := by decide +kernel
theorem dX1_placeBehind_103 : decode cX1_placeBehind 103 = .ok (.iconst 3, 1) := by decide +kernel
theorem dX1_placeBehind_104 : decode cX1_placeBehind 104 = .ok (.goto 4, 3) := by decide +kernel
theorem dX1_placeBehind_107 : decode cX1_placeBehind 107 = .ok (.iconst (-1), 1) := by decide +kernel
theorem dX1_placeBehind_108 : decode cX1_placeBehind 108 = .ok (.ireturn, 1) := by decide +kernel
theorem dX1_placeBehind_109 : decode cX1_placeBehind 109 = .ok (.aload_n 0, 1) := by decide +kernel
theorem dX1_placeBehind_110 : decode cX1_placeBehind 110 = .ok (.getfield 19, 3) := by decide +kernel
theorem dX1_placeBehind_113 : decode cX1_placeBehind 113 = .ok (.iconst 3, 1) := by decide +kernel
theorem dX1_placeBehind_114 : decode cX1_placeBehind 114 = .ok (.if_icmp .ne 7, 3) := by decide +kernel
theorem dX1_placeBehind_117 : decode cX1_placeBehind 117 = .ok (.iconst 0, 1) := by decide +kernel
theorem dX1_placeBehind_118 : decode cX1_placeBehind 118 = .ok (.goto 4, 3) := by decide +kernel
theorem dX1_placeBehind_121 : decode cX1_placeBehind 121 = .ok (.iconst (-1), 1) := by decide +kernel
theorem dX1_placeBehind_122 : decode cX1_placeBehind 122 = .ok (.ireturn, 1) := by decide +kernel
theorem dX1_placeBehind_123 : decode cX1_placeBehind 123 = .ok (.iconst (-1), 1) := by decide +kernel
theorem dX1_placeBehind_124 : decode cX1_placeBehind 124 = .ok (.ireturn, 1) := by decide +kernel
theorem dX1_comparesRight_0 : decode cX1_comparesRight 0 = .ok (.aload_n 0, 1) := by decide +kernel
theorem dX1_comparesRight_1 : decode cX1_comparesRight 1 = .ok (.getfield 50, 3) := by decide +kernel
theorem dX1_comparesRight_4 : decode cX1_comparesRight 4 = .ok (.lookupswitch 62 #[(60, 28), (62, 45)], 28) := by decide +kernel
theorem dX1_comparesRight_32 : decode cX1_comparesRight 32 = .ok (.aload_n 0, 1) := by decide +kernel
theorem dX1_comparesRight_33 : decode cX1_comparesRight 33 = .ok (.getfield 47, 3) := by decide +kernel
theorem dX1_comparesRight_36 : decode cX1_comparesRight 36 = .ok (.aload_n 0, 1) := by decide +kernel
theorem dX1_comparesRight_37 : decode cX1_comparesRight 37 = .ok (.getfield 32, 3) := by decide +kernel
theorem dX1_comparesRight_40 : decode cX1_comparesRight 40 = .ok (.if_icmp .ge 7, 3) := by decide +kernel
theorem dX1_comparesRight_43 : decode cX1_comparesRight 43 = .ok (.iconst 1, 1) := by decide +kernel
theorem dX1_comparesRight_44 : decode cX1_comparesRight 44 = .ok (.goto 4, 3) := by decide +kernel
theorem dX1_comparesRight_47 : decode cX1_comparesRight 47 = .ok (.iconst 0, 1) := by decide +kernel
theorem dX1_comparesRight_48 : decode cX1_comparesRight 48 = .ok (.ireturn, 1) := by decide +kernel
theorem dX1_comparesRight_49 : decode cX1_comparesRight 49 = .ok (.aload_n 0, 1) := by decide +kernel
theorem dX1_comparesRight_50 : decode cX1_comparesRight 50 = .ok (.getfield 47, 3) := by decide +kernel
theorem dX1_comparesRight_53 : decode cX1_comparesRight 53 = .ok (.aload_n 0, 1) := by decide +kernel
theorem dX1_comparesRight_54 : decode cX1_comparesRight 54 = .ok (.getfield 32, 3) := by decide +kernel
theorem dX1_comparesRight_57 : decode cX1_comparesRight 57 = .ok (.if_icmp .le 7, 3) := by decide +kernel
theorem dX1_comparesRight_60 : decode cX1_comparesRight 60 = .ok (.iconst 1, 1) := by decide +kernel
theorem dX1_comparesRight_61 : decode cX1_comparesRight 61 = .ok (.goto 4, 3) := by decide +kernel
theorem dX1_comparesRight_64 : decode cX1_comparesRight 64 = .ok (.iconst 0, 1) := by decide +kernel
theorem dX1_comparesRight_65 : decode cX1_comparesRight 65 = .ok (.ireturn, 1) := by decide +kernel
theorem dX1_comparesRight_66 : decode cX1_comparesRight 66 = .ok (.aload_n 0, 1) := by decide +kernel
theorem dX1_comparesRight_67 : decode cX1_comparesRight 67 = .ok (.getfield 47, 3) := by decide +kernel
theorem dX1_comparesRight_70 : decode cX1_comparesRight 70 = .ok (.aload_n 0, 1) := by decide +kernel
theorem dX1_comparesRight_71 : decode cX1_comparesRight 71 = .ok (.getfield 32, 3) := by decide +kernel
theorem dX1_comparesRight_74 : decode cX1_comparesRight 74 = .ok (.if_icmp .ne 7, 3) := by decide +kernel
theorem dX1_comparesRight_77 : decode cX1_comparesRight 77 = .ok (.iconst 1, 1) := by decide +kernel
theorem dX1_comparesRight_78 : decode cX1_comparesRight 78 = .ok (.goto 4, 3) := by decide +kernel
theorem dX1_comparesRight_81 : decode cX1_comparesRight 81 = .ok (.iconst 0, 1) := by decide +kernel
theorem dX1_comparesRight_82 : decode cX1_comparesRight 82 = .ok (.ireturn, 1) := by decide +kernel
theorem dX2_init_0 : decode cX2_init 0 = .ok (.aload_n 0, 1) := by decide +kernel
theorem dX2_init_1 : decode cX2_init 1 = .ok (.invokespecial 3, 3) := by decide +kernel
theorem dX2_init_4 : decode cX2_init 4 = .ok (.aload_n 0, 1) := by decide +kernel
theorem dX2_init_5 : decode cX2_init 5 = .ok (.iconst 0, 1) := by decide +kernel
theorem dX2_init_6 : decode cX2_init 6 = .ok (.putfield 9, 3) := by decide +kernel
theorem dX2_init_9 : decode cX2_init 9 = .ok (.aload_n 0, 1) := by decide +kernel
theorem dX2_init_10 : decode cX2_init 10 = .ok (.iconst 0, 1) := by decide +kernel
theorem dX2_init_11 : decode cX2_init 11 = .ok (.putfield 15, 3) := by decide +kernel
theorem dX2_init_14 : decode cX2_init 14 = .ok (.aload_n 0, 1) := by decide +kernel
theorem dX2_init_15 : decode cX2_init 15 = .ok (.bipush 40, 2) := by decide +kernel
theorem dX2_init_17 : decode cX2_init 17 = .ok (.newarray .long, 2) := by decide +kernel
theorem dX2_init_19 : decode cX2_init 19 = .ok (.putfield 18, 3) := by decide +kernel
theorem dX2_init_22 : decode cX2_init 22 = .ok (.return_, 1) := by decide +kernel
theorem dX2_isMissing_0 : decode cX2_isMissing 0 = .ok (.aload_n 0, 1) := by decide +kernel
theorem dX2_isMissing_1 : decode cX2_isMissing 1 = .ok (.getfield 9, 3) := by decide +kernel
theorem dX2_isMissing_4 : decode cX2_isMissing 4 = .ok (.ifCond .ne 7, 3) := by decide +kernel
theorem dX2_isMissing_7 : decode cX2_isMissing 7 = .ok (.iconst 1, 1) := by decide +kernel
theorem dX2_isMissing_8 : decode cX2_isMissing 8 = .ok (.goto 4, 3) := by decide +kernel
theorem dX2_isMissing_11 : decode cX2_isMissing 11 = .ok (.iconst 0, 1) := by decide +kernel
theorem dX2_isMissing_12 : decode cX2_isMissing 12 = .ok (.ireturn, 1) := by decide +kernel
theorem dX2_begin_0 : decode cX2_begin 0 = .ok (.aload_n 0, 1) := by decide +kernel
theorem dX2_begin_1 : decode cX2_begin 1 = .ok (.iload_n 1, 1) := by decide +kernel
theorem dX2_begin_2 : decode cX2_begin 2 = .ok (.putfield 9, 3) := by decide +kernel
theorem dX2_begin_5 : decode cX2_begin 5 = .ok (.aload_n 0, 1) := by decide +kernel
theorem dX2_begin_6 : decode cX2_begin 6 = .ok (.aload_n 0, 1) := by decide +kernel
theorem dX2_begin_7 : decode cX2_begin 7 = .ok (.invokevirtual 22, 3) := by decide +kernel
theorem dX2_begin_10 : decode cX2_begin 10 = .ok (.ifCond .eq 7, 3) := by decide +kernel
theorem dX2_begin_13 : decode cX2_begin 13 = .ok (.iconst 0, 1) := by decide +kernel
theorem dX2_begin_14 : decode cX2_begin 14 = .ok (.goto 4, 3) := by decide +kernel
theorem dX2_begin_17 : decode cX2_begin 17 = .ok (.iload_n 2, 1) := by decide +kernel
theorem dX2_begin_18 : decode cX2_begin 18 = .ok (.putfield 15, 3) := by decide +kernel
theorem dX2_begin_21 : decode cX2_begin 21 = .ok (.iconst 0, 1) := by decide +kernel
theorem dX2_begin_22 : decode cX2_begin 22 = .ok (.istore_n 3, 1) := by decide +kernel
theorem dX2_begin_23 : decode cX2_begin 23 = .ok (.iload_n 3, 1) := by decide +kernel
theorem dX2_begin_24 : decode cX2_begin 24 = .ok (.bipush 40, 2) := by decide +kernel
theorem dX2_begin_26 : decode cX2_begin 26 = .ok (.if_icmp .ge 16, 3) := by decide +kernel
theorem dX2_begin_29 : decode cX2_begin 29 = .ok (.aload_n 0, 1) := by decide +kernel
theorem dX2_begin_30 : decode cX2_begin 30 = .ok (.getfield 18, 3) := by decide +kernel
theorem dX2_begin_33 : decode cX2_begin 33 = .ok (.iload_n 3, 1) := by decide +kernel
theorem dX2_begin_34 : decode cX2_begin 34 = .ok (.lconst 0, 1) := by decide +kernel
theorem dX2_begin_35 : decode cX2_begin 35 = .ok (.lastore, 1) := by decide +kernel
theorem dX2_begin_36 : decode cX2_begin 36 = .ok (.iinc 3 1, 3) := by decide +kernel
theorem dX2_begin_39 : decode cX2_begin 39 = .ok (.goto (-16), 3) := by decide +kernel
theorem dX2_begin_42 : decode cX2_begin 42 = .ok (.return_, 1) := by decide +kernel
theorem dX2_put_0 : decode cX2_put 0 = .ok (.aload_n 0, 1) := by decide +kernel
theorem dX2_put_1 : decode cX2_put 1 = .ok (.getfield 9, 3) := by decide +kernel
theorem dX2_put_4 : decode cX2_put 4 = .ok (.lookupswitch 54 #[(8, 28), (16, 41)], 28) := by decide +kernel
theorem dX2_put_32 : decode cX2_put 32 = .ok (.aload_n 0, 1) := by decide +kernel
theorem dX2_put_33 : decode cX2_put 33 = .ok (.getfield 18, 3) := by decide +kernel
theorem dX2_put_36 : decode cX2_put 36 = .ok (.iload_n 1, 1) := by decide +kernel
theorem dX2_put_37 : decode cX2_put 37 = .ok (.lload_n 2, 1) := by decide +kernel
theorem dX2_put_38 : decode cX2_put 38 = .ok (.l2i, 1) := by decide +kernel
theorem dX2_put_39 : decode cX2_put 39 = .ok (.i2b, 1) := by decide +kernel
theorem dX2_put_40 : decode cX2_put 40 = .ok (.i2l, 1) := by decide +kernel
theorem dX2_put_41 : decode cX2_put 41 = .ok (.lastore, 1) := by decide +kernel
theorem dX2_put_42 : decode cX2_put 42 = .ok (.goto 23, 3) := by decide +kernel
theorem dX2_put_45 : decode cX2_put 45 = .ok (.aload_n 0, 1) := by decide +kernel
theorem dX2_put_46 : decode cX2_put 46 = .ok (.getfield 18, 3) := by decide +kernel
theorem dX2_put_49 : decode cX2_put 49 = .ok (.iload_n 1, 1) := by decide +kernel
theorem dX2_put_50 : decode cX2_put 50 = .ok (.lload_n 2, 1) := by decide +kernel
theorem dX2_put_51 : decode cX2_put 51 = .ok (.l2i, 1) := by decide +kernel
theorem dX2_put_52 : decode cX2_put 52 = .ok (.i2s, 1) := by decide +kernel
theorem dX2_put_53 : decode cX2_put 53 = .ok (.i2l, 1) := by decide +kernel
theorem dX2_put_54 : decode cX2_put 54 = .ok (.lastore, 1) := by decide +kernel
theorem dX2_put_55 : decode cX2_put 55 = .ok (.goto 10, 3) := by decide +kernel
theorem dX2_put_58 : decode cX2_put 58 = .ok (.aload_n 0, 1) := by decide +kernel
theorem dX2_put_59 : decode cX2_put 59 = .ok (.getfield 18, 3) := by decide +kernel
theorem dX2_put_62 : decode cX2_put 62 = .ok (.iload_n 1, 1) := by decide +kernel
theorem dX2_put_63 : decode cX2_put 63 = .ok (.lload_n 2, 1) := by decide +kernel
theorem dX2_put_64 : decode cX2_put 64 = .ok (.lastore, 1) := by decide +kernel
theorem dX2_put_65 : decode cX2_put 65 = .ok (.return_, 1) := by decide +kernel
theorem dX2_hasFrom_0 : decode cX2_hasFrom 0 = .ok (.iload_n 1, 1) := by decide +kernel
theorem dX2_hasFrom_1 : decode cX2_hasFrom 1 = .ok (.ifCond .lt 29, 3) := by decide +kernel
theorem dX2_hasFrom_4 : decode cX2_hasFrom 4 = .ok (.iload_n 2, 1) := by decide +kernel
theorem dX2_hasFrom_5 : decode cX2_hasFrom 5 = .ok (.ifCond .lt 25, 3) := by decide +kernel
theorem dX2_hasFrom_8 : decode cX2_hasFrom 8 = .ok (.iload_n 2, 1) := by decide +kernel
theorem dX2_hasFrom_9 : decode cX2_hasFrom 9 = .ok (.aload_n 0, 1) := by decide +kernel
theorem dX2_hasFrom_10 : decode cX2_hasFrom 10 = .ok (.getfield 15, 3) := by decide +kernel
theorem dX2_hasFrom_13 : decode cX2_hasFrom 13 = .ok (.if_icmp .gt 17, 3) := by decide +kernel
theorem dX2_hasFrom_16 : decode cX2_hasFrom 16 = .ok (.iload_n 1, 1) := by decide +kernel
theorem dX2_hasFrom_17 : decode cX2_hasFrom 17 = .ok (.aload_n 0, 1) := by decide +kernel
theorem dX2_hasFrom_18 : decode cX2_hasFrom 18 = .ok (.getfield 15, 3) := by decide +kernel
theorem dX2_hasFrom_21 : decode cX2_hasFrom 21 = .ok (.iload_n 2, 1) := by decide +kernel
theorem dX2_hasFrom_22 : decode cX2_hasFrom 22 = .ok (.isub, 1) := by decide +kernel
theorem dX2_hasFrom_23 : decode cX2_hasFrom 23 = .ok (.if_icmp .gt 7, 3) := by decide +kernel
theorem dX2_hasFrom_26 : decode cX2_hasFrom 26 = .ok (.iconst 1, 1) := by decide +kernel
theorem dX2_hasFrom_27 : decode cX2_hasFrom 27 = .ok (.goto 4, 3) := by decide +kernel
theorem dX2_hasFrom_30 : decode cX2_hasFrom 30 = .ok (.iconst 0, 1) := by decide +kernel
theorem dX2_hasFrom_31 : decode cX2_hasFrom 31 = .ok (.ireturn, 1) := by decide +kernel
theorem dX2_isWithin_0 : decode cX2_isWithin 0 = .ok (.iconst 0, 1) := by decide +kernel
theorem dX2_isWithin_1 : decode cX2_isWithin 1 = .ok (.istore_n 2, 1) := by decide +kernel
theorem dX2_isWithin_2 : decode cX2_isWithin 2 = .ok (.iload_n 2, 1) := by decide +kernel
theorem dX2_isWithin_3 : decode cX2_isWithin 3 = .ok (.aload_n 0, 1) := by decide +kernel
theorem dX2_isWithin_4 : decode cX2_isWithin 4 = .ok (.getfield 15, 3) := by decide +kernel
theorem dX2_isWithin_7 : decode cX2_isWithin 7 = .ok (.if_icmp .ge 36, 3) := by decide +kernel
theorem dX2_isWithin_10 : decode cX2_isWithin 10 = .ok (.aload_n 0, 1) := by decide +kernel
theorem dX2_isWithin_11 : decode cX2_isWithin 11 = .ok (.getfield 18, 3) := by decide +kernel
theorem dX2_isWithin_14 : decode cX2_isWithin 14 = .ok (.iload_n 2, 1) := by decide +kernel
theorem dX2_isWithin_15 : decode cX2_isWithin 15 = .ok (.laload, 1) := by decide +kernel
theorem dX2_isWithin_16 : decode cX2_isWithin 16 = .ok (.iload_n 1, 1) := by decide +kernel
theorem dX2_isWithin_17 : decode cX2_isWithin 17 = .ok (.ineg, 1) := by decide +kernel
theorem dX2_isWithin_18 : decode cX2_isWithin 18 = .ok (.i2l, 1) := by decide +kernel
theorem dX2_isWithin_19 : decode cX2_isWithin 19 = .ok (.lcmp, 1) := by decide +kernel
theorem dX2_isWithin_20 : decode cX2_isWithin 20 = .ok (.ifCond .lt 15, 3) := by decide +kernel
theorem dX2_isWithin_23 : decode cX2_isWithin 23 = .ok (.aload_n 0, 1) := by decide +kernel
theorem dX2_isWithin_24 : decode cX2_isWithin 24 = .ok (.getfield 18, 3) := by decide +kernel
theorem dX2_isWithin_27 : decode cX2_isWithin 27 = .ok (.iload_n 2, 1) := by decide +kernel
theorem dX2_isWithin_28 : decode cX2_isWithin 28 = .ok (.laload, 1) := by decide +kernel
theorem dX2_isWithin_29 : decode cX2_isWithin 29 = .ok (.iload_n 1, 1) := by decide +kernel
theorem dX2_isWithin_30 : decode cX2_isWithin 30 = .ok (.i2l, 1) := by decide +kernel
theorem dX2_isWithin_31 : decode cX2_isWithin 31 = .ok (.lcmp, 1) := by decide +kernel
theorem dX2_isWithin_32 : decode cX2_isWithin 32 = .ok (.ifCond .le 5, 3) := by decide +kernel
theorem dX2_isWithin_35 : decode cX2_isWithin 35 = .ok (.iconst 0, 1) := by decide +kernel
theorem dX2_isWithin_36 : decode cX2_isWithin 36 = .ok (.ireturn, 1) := by decide +kernel
theorem dX2_isWithin_37 : decode cX2_isWithin 37 = .ok (.iinc 2 1, 3) := by decide +kernel
theorem dX2_isWithin_40 : decode cX2_isWithin 40 = .ok (.goto (-38), 3) := by decide +kernel
theorem dX2_isWithin_43 : decode cX2_isWithin 43 = .ok (.iconst 1, 1) := by decide +kernel
theorem dX2_isWithin_44 : decode cX2_isWithin 44 = .ok (.ireturn, 1) := by decide +kernel
theorem dX3_init_0 : decode cX3_init 0 = .ok (.aload_n 0, 1) := by decide +kernel
theorem dX3_init_1 : decode cX3_init 1 = .ok (.invokespecial 3, 3) := by decide +kernel
theorem dX3_init_4 : decode cX3_init 4 = .ok (.aload_n 0, 1) := by decide +kernel
theorem dX3_init_5 : decode cX3_init 5 = .ok (.bipush 12, 2) := by decide +kernel
theorem dX3_init_7 : decode cX3_init 7 = .ok (.newarray .int, 2) := by decide +kernel
theorem dX3_init_9 : decode cX3_init 9 = .ok (.putfield 9, 3) := by decide +kernel
theorem dX3_init_12 : decode cX3_init 12 = .ok (.aload_n 0, 1) := by decide +kernel
theorem dX3_init_13 : decode cX3_init 13 = .ok (.sipush 492, 3) := by decide +kernel
theorem dX3_init_16 : decode cX3_init 16 = .ok (.newarray .int, 2) := by decide +kernel
theorem dX3_init_18 : decode cX3_init 18 = .ok (.putfield 15, 3) := by decide +kernel
theorem dX3_init_21 : decode cX3_init 21 = .ok (.aload_n 0, 1) := by decide +kernel
theorem dX3_init_22 : decode cX3_init 22 = .ok (.bipush 41, 2) := by decide +kernel
theorem dX3_init_24 : decode cX3_init 24 = .ok (.newarray .int, 2) := by decide +kernel
theorem dX3_init_26 : decode cX3_init 26 = .ok (.putfield 18, 3) := by decide +kernel
theorem dX3_init_29 : decode cX3_init 29 = .ok (.aload_n 0, 1) := by decide +kernel
theorem dX3_init_30 : decode cX3_init 30 = .ok (.bipush 41, 2) := by decide +kernel
theorem dX3_init_32 : decode cX3_init 32 = .ok (.newarray .int, 2) := by decide +kernel
theorem dX3_init_34 : decode cX3_init 34 = .ok (.putfield 21, 3) := by decide +kernel
theorem dX3_init_37 : decode cX3_init 37 = .ok (.aload_n 0, 1) := by decide +kernel
theorem dX3_init_38 : decode cX3_init 38 = .ok (.bipush 12, 2) := by decide +kernel
theorem dX3_init_40 : decode cX3_init 40 = .ok (.newarray .int, 2) := by decide +kernel
theorem dX3_init_42 : decode cX3_init 42 = .ok (.putfield 24, 3) := by decide +kernel
theorem dX3_init_45 : decode cX3_init 45 = .ok (.aload_n 0, 1) := by decide +kernel
theorem dX3_init_46 : decode cX3_init 46 = .ok (.iconst 0, 1) := by decide +kernel
theorem dX3_init_47 : decode cX3_init 47 = .ok (.putfield 27, 3) := by decide +kernel
theorem dX3_init_50 : decode cX3_init 50 = .ok (.aload_n 0, 1) := by decide +kernel
theorem dX3_init_51 : decode cX3_init 51 = .ok (.iconst 0, 1) := by decide +kernel
theorem dX3_init_52 : decode cX3_init 52 = .ok (.putfield 31, 3) := by decide +kernel
theorem dX3_init_55 : decode cX3_init 55 = .ok (.aload_n 0, 1) := by decide +kernel
theorem dX3_init_56 : decode cX3_init 56 = .ok (.iconst 0, 1) := by decide +kernel
theorem dX3_init_57 : decode cX3_init 57 = .ok (.putfield 34, 3) := by decide +kernel
theorem dX3_init_60 : decode cX3_init 60 = .ok (.aload_n 0, 1) := by decide +kernel
theorem dX3_init_61 : decode cX3_init 61 = .ok (.iconst 0, 1) := by decide +kernel
theorem dX3_init_62 : decode cX3_init 62 = .ok (.putfield 37, 3) := by decide +kernel
theorem dX3_init_65 : decode cX3_init 65 = .ok (.aload_n 0, 1) := by decide +kernel
theorem dX3_init_66 : decode cX3_init 66 = .ok (.iconst 0, 1) := by decide +kernel
theorem dX3_init_67 : decode cX3_init 67 = .ok (.putfield 40, 3) := by decide +kernel
theorem dX3_init_70 : decode cX3_init 70 = .ok (.aload_n 0, 1) := by decide +kernel
theorem dX3_init_71 : decode cX3_init 71 = .ok (.iconst 0, 1) := by decide +kernel
theorem dX3_init_72 : decode cX3_init 72 = .ok (.putfield 43, 3) := by decide +kernel
theorem dX3_init_75 : decode cX3_init 75 = .ok (.return_, 1) := by decide +kernel
theorem dX3_load_0 : decode cX3_load 0 = .ok (.aload_n 0, 1) := by decide +kernel
theorem dX3_load_1 : decode cX3_load 1 = .ok (.aload_n 1, 1) := by decide +kernel
theorem dX3_load_2 : decode cX3_load 2 = .ok (.getfield 46, 3) := by decide +kernel
theorem dX3_load_5 : decode cX3_load 5 = .ok (.bipush 12, 2) := by decide +kernel
theorem dX3_load_7 : decode cX3_load 7 = .ok (.invokestatic 49, 3) := by decide +kernel
theorem dX3_load_10 : decode cX3_load 10 = .ok (.putfield 27, 3) := by decide +kernel
theorem dX3_load_13 : decode cX3_load 13 = .ok (.aload_n 0, 1) := by decide +kernel
theorem dX3_load_14 : decode cX3_load 14 = .ok (.iload_n 2, 1) := by decide +kernel
theorem dX3_load_15 : decode cX3_load 15 = .ok (.putfield 31, 3) := by decide +kernel
theorem dX3_load_18 : decode cX3_load 18 = .ok (.aload_n 0, 1) := by decide +kernel
theorem dX3_load_19 : decode cX3_load 19 = .ok (.iload_n 3, 1) := by decide +kernel
theorem dX3_load_20 : decode cX3_load 20 = .ok (.bipush 20, 2) := by decide +kernel
theorem dX3_load_22 : decode cX3_load 22 = .ok (.invokestatic 49, 3) := by decide +kernel
theorem dX3_load_25 : decode cX3_load 25 = .ok (.putfield 34, 3) := by decide +kernel
theorem dX3_load_28 : decode cX3_load 28 = .ok (.iconst 0, 1) := by decide +kernel
theorem dX3_load_29 : decode cX3_load 29 = .ok (.istore 4, 2) := by decide +kernel
theorem dX3_load_31 : decode cX3_load 31 = .ok (.iload 4, 2) := by decide +kernel
theorem dX3_load_33 : decode cX3_load 33 = .ok (.aload_n 0, 1) := by decide +kernel
theorem dX3_load_34 : decode cX3_load 34 = .ok (.getfield 27, 3) := by decide +kernel
theorem dX3_load_37 : decode cX3_load 37 = .ok (.if_icmp .ge 24, 3) := by decide +kernel
theorem dX3_load_40 : decode cX3_load 40 = .ok (.aload_n 0, 1) := by decide +kernel
theorem dX3_load_41 : decode cX3_load 41 = .ok (.getfield 9, 3) := by decide +kernel
theorem dX3_load_44 : decode cX3_load 44 = .ok (.iload 4, 2) := by decide +kernel
theorem dX3_load_46 : decode cX3_load 46 = .ok (.aload_n 1, 1) := by decide +kernel
theorem dX3_load_47 : decode cX3_load 47 = .ok (.getfield 55, 3) := by decide +kernel
theorem dX3_load_50 : decode cX3_load 50 = .ok (.iload 4, 2) := by decide +kernel
theorem dX3_load_52 : decode cX3_load 52 = .ok (.laload, 1) := by decide +kernel
theorem dX3_load_53 : decode cX3_load 53 = .ok (.l2i, 1) := by decide +kernel
theorem dX3_load_54 : decode cX3_load 54 = .ok (.iastore, 1) := by decide +kernel
theorem dX3_load_55 : decode cX3_load 55 = .ok (.iinc 4 1, 3) := by decide +kernel
theorem dX3_load_58 : decode cX3_load 58 = .ok (.goto (-27), 3) := by decide +kernel
theorem dX3_load_61 : decode cX3_load 61 = .ok (.aload_n 0, 1) := by decide +kernel
theorem dX3_load_62 : decode cX3_load 62 = .ok (.getfield 27, 3) := by decide +kernel
theorem dX3_load_65 : decode cX3_load 65 = .ok (.iconst 1, 1) := by decide +kernel
theorem dX3_load_66 : decode cX3_load 66 = .ok (.isub, 1) := by decide +kernel
theorem dX3_load_67 : decode cX3_load 67 = .ok (.istore 4, 2) := by decide +kernel
theorem dX3_load_69 : decode cX3_load 69 = .ok (.iload 4, 2) := by decide +kernel
theorem dX3_load_71 : decode cX3_load 71 = .ok (.ifCond .lt 21, 3) := by decide +kernel
theorem dX3_load_74 : decode cX3_load 74 = .ok (.aload_n 0, 1) := by decide +kernel
theorem dX3_load_75 : decode cX3_load 75 = .ok (.iload 4, 2) := by decide +kernel
theorem dX3_load_77 : decode cX3_load 77 = .ok (.invokevirtual 59, 3) := by decide +kernel
theorem dX3_load_80 : decode cX3_load 80 = .ok (.aload_n 0, 1) := by decide +kernel
theorem dX3_load_81 : decode cX3_load 81 = .ok (.iload 4, 2) := by decide +kernel
theorem dX3_load_83 : decode cX3_load 83 = .ok (.invokevirtual 63, 3) := by decide +kernel
theorem dX3_load_86 : decode cX3_load 86 = .ok (.iinc 4 (-1), 3) := by decide +kernel
theorem dX3_load_89 : decode cX3_load 89 = .ok (.goto (-20), 3) := by decide +kernel
theorem dX3_load_92 : decode cX3_load 92 = .ok (.aload_n 0, 1) := by decide +kernel
theorem dX3_load_93 : decode cX3_load 93 = .ok (.aload_n 0, 1) := by decide +kernel
theorem dX3_load_94 : decode cX3_load 94 = .ok (.getfield 21, 3) := by decide +kernel
theorem dX3_load_97 : decode cX3_load 97 = .ok (.iconst 0, 1) := by decide +kernel
theorem dX3_load_98 : decode cX3_load 98 = .ok (.iaload, 1) := by decide +kernel
theorem dX3_load_99 : decode cX3_load 99 = .ok (.putfield 37, 3) := by decide +kernel
theorem dX3_load_102 : decode cX3_load 102 = .ok (.aload_n 0, 1) := by decide +kernel
theorem dX3_load_103 : decode cX3_load 103 = .ok (.invokevirtual 66, 3) := by decide +kernel
theorem dX3_load_106 : decode cX3_load 106 = .ok (.ifCond .eq 7, 3) := by decide +kernel
theorem dX3_load_109 : decode cX3_load 109 = .ok (.aload_n 0, 1) := by decide +kernel
theorem dX3_load_110 : decode cX3_load 110 = .ok (.invokevirtual 70, 3) := by decide +kernel
theorem dX3_load_113 : decode cX3_load 113 = .ok (.return_, 1) := by decide +kernel
theorem dX3_canBe_0 : decode cX3_canBe 0 = .ok (.aload_n 0, 1) := by decide +kernel
theorem dX3_canBe_1 : decode cX3_canBe 1 = .ok (.getfield 37, 3) := by decide +kernel
theorem dX3_canBe_4 : decode cX3_canBe 4 = .ok (.ldc 73, 2) := by decide +kernel
theorem dX3_canBe_6 : decode cX3_canBe 6 = .ok (.if_icmp .ge 7, 3) := by decide +kernel
theorem dX3_canBe_9 : decode cX3_canBe 9 = .ok (.iconst 1, 1) := by decide +kernel
theorem dX3_canBe_10 : decode cX3_canBe 10 = .ok (.goto 4, 3) := by decide +kernel
theorem dX3_canBe_13 : decode cX3_canBe 13 = .ok (.iconst 0, 1) := by decide +kernel
theorem dX3_canBe_14 : decode cX3_canBe 14 = .ok (.ireturn, 1) := by decide +kernel
theorem dX3_weigh_0 : decode cX3_weigh 0 = .ok (.aload_n 0, 1) := by decide +kernel
theorem dX3_weigh_1 : decode cX3_weigh 1 = .ok (.getfield 34, 3) := by decide +kernel
theorem dX3_weigh_4 : decode cX3_weigh 4 = .ok (.ineg, 1) := by decide +kernel
theorem dX3_weigh_5 : decode cX3_weigh 5 = .ok (.istore_n 2, 1) := by decide +kernel
theorem dX3_weigh_6 : decode cX3_weigh 6 = .ok (.iload_n 2, 1) := by decide +kernel
theorem dX3_weigh_7 : decode cX3_weigh 7 = .ok (.aload_n 0, 1) := by decide +kernel
theorem dX3_weigh_8 : decode cX3_weigh 8 = .ok (.getfield 34, 3) := by decide +kernel
theorem dX3_weigh_11 : decode cX3_weigh 11 = .ok (.if_icmp .gt 61, 3) := by decide +kernel
theorem dX3_weigh_14 : decode cX3_weigh 14 = .ok (.iload_n 1, 1) := by decide +kernel
theorem dX3_weigh_15 : decode cX3_weigh 15 = .ok (.aload_n 0, 1) := by decide +kernel
theorem dX3_weigh_16 : decode cX3_weigh 16 = .ok (.getfield 27, 3) := by decide +kernel
theorem dX3_weigh_19 : decode cX3_weigh 19 = .ok (.iconst 1, 1) := by decide +kernel
theorem dX3_weigh_20 : decode cX3_weigh 20 = .ok (.isub, 1) := by decide +kernel
theorem dX3_weigh_21 : decode cX3_weigh 21 = .ok (.if_icmp .ne 7, 3) := by decide +kernel
theorem dX3_weigh_24 : decode cX3_weigh 24 = .ok (.iconst 0, 1) := by decide +kernel
theorem dX3_weigh_25 : decode cX3_weigh 25 = .ok (.goto 9, 3) := by decide +kernel
theorem dX3_weigh_28 : decode cX3_weigh 28 = .ok (.aload_n 0, 1) := by decide +kernel
theorem dX3_weigh_29 : decode cX3_weigh 29 = .ok (.iload_n 1, 1) := by decide +kernel
theorem dX3_weigh_30 : decode cX3_weigh 30 = .ok (.iload_n 2, 1) := by decide +kernel
theorem dX3_weigh_31 : decode cX3_weigh 31 = .ok (.invokevirtual 74, 3) := by decide +kernel
theorem dX3_weigh_34 : decode cX3_weigh 34 = .ok (.istore_n 3, 1) := by decide +kernel
theorem dX3_weigh_35 : decode cX3_weigh 35 = .ok (.iload_n 3, 1) := by decide +kernel
theorem dX3_weigh_36 : decode cX3_weigh 36 = .ok (.iload_n 2, 1) := by decide +kernel
theorem dX3_weigh_37 : decode cX3_weigh 37 = .ok (.invokestatic 77, 3) := by decide +kernel
theorem dX3_weigh_40 : decode cX3_weigh 40 = .ok (.iadd, 1) := by decide +kernel
theorem dX3_weigh_41 : decode cX3_weigh 41 = .ok (.istore 4, 2) := by decide +kernel
theorem dX3_weigh_43 : decode cX3_weigh 43 = .ok (.aload_n 0, 1) := by decide +kernel
theorem dX3_weigh_44 : decode cX3_weigh 44 = .ok (.getfield 15, 3) := by decide +kernel
theorem dX3_weigh_47 : decode cX3_weigh 47 = .ok (.iload_n 1, 1) := by decide +kernel
theorem dX3_weigh_48 : decode cX3_weigh 48 = .ok (.bipush 41, 2) := by decide +kernel
theorem dX3_weigh_50 : decode cX3_weigh 50 = .ok (.imul, 1) := by decide +kernel
theorem dX3_weigh_51 : decode cX3_weigh 51 = .ok (.aload_n 0, 1) := by decide +kernel
theorem dX3_weigh_52 : decode cX3_weigh 52 = .ok (.getfield 34, 3) := by decide +kernel
theorem dX3_weigh_55 : decode cX3_weigh 55 = .ok (.iadd, 1) := by decide +kernel
theorem dX3_weigh_56 : decode cX3_weigh 56 = .ok (.iload_n 2, 1) := by decide +kernel
theorem dX3_weigh_57 : decode cX3_weigh 57 = .ok (.iadd, 1) := by decide +kernel
theorem dX3_weigh_58 : decode cX3_weigh 58 = .ok (.iload 4, 2) := by decide +kernel
theorem dX3_weigh_60 : decode cX3_weigh 60 = .ok (.ldc 73, 2) := by decide +kernel
theorem dX3_weigh_62 : decode cX3_weigh 62 = .ok (.invokestatic 49, 3) := by decide +kernel
theorem dX3_weigh_65 : decode cX3_weigh 65 = .ok (.iastore, 1) := by decide +kernel
theorem dX3_weigh_66 : decode cX3_weigh 66 = .ok (.iinc 2 1, 3) := by decide +kernel
theorem dX3_weigh_69 : decode cX3_weigh 69 = .ok (.goto (-63), 3) := by decide +kernel
theorem dX3_weigh_72 : decode cX3_weigh 72 = .ok (.return_, 1) := by decide +kernel
theorem dX3_costOf_0 : decode cX3_costOf 0 = .ok (.iload_n 0, 1) := by decide +kernel
theorem dX3_costOf_1 : decode cX3_costOf 1 = .ok (.ifCond .ne 7, 3) := by decide +kernel
theorem dX3_costOf_4 : decode cX3_costOf 4 = .ok (.iconst 0, 1) := by decide +kernel
theorem dX3_costOf_5 : decode cX3_costOf 5 = .ok (.goto 11, 3) := by decide +kernel
theorem dX3_costOf_8 : decode cX3_costOf 8 = .ok (.sipush 1000, 3) := by decide +kernel
theorem dX3_costOf_11 : decode cX3_costOf 11 = .ok (.iload_n 0, 1) := by decide +kernel
theorem dX3_costOf_12 : decode cX3_costOf 12 = .ok (.invokestatic 81, 3) := by decide +kernel
theorem dX3_costOf_15 : decode cX3_costOf 15 = .ok (.iadd, 1) := by decide +kernel
theorem dX3_costOf_16 : decode cX3_costOf 16 = .ok (.ireturn, 1) := by decide +kernel
theorem dX3_costBehind_0 : decode cX3_costBehind 0 = .ok (.aload_n 0, 1) := by decide +kernel
theorem dX3_costBehind_1 : decode cX3_costBehind 1 = .ok (.getfield 9, 3) := by decide +kernel
theorem dX3_costBehind_4 : decode cX3_costBehind 4 = .ok (.iload_n 1, 1) := by decide +kernel
theorem dX3_costBehind_5 : decode cX3_costBehind 5 = .ok (.iaload, 1) := by decide +kernel
theorem dX3_costBehind_6 : decode cX3_costBehind 6 = .ok (.iload_n 2, 1) := by decide +kernel
theorem dX3_costBehind_7 : decode cX3_costBehind 7 = .ok (.iadd, 1) := by decide +kernel
theorem dX3_costBehind_8 : decode cX3_costBehind 8 = .ok (.aload_n 0, 1) := by decide +kernel
theorem dX3_costBehind_9 : decode cX3_costBehind 9 = .ok (.getfield 9, 3) := by decide +kernel
theorem dX3_costBehind_12 : decode cX3_costBehind 12 = .ok (.iload_n 1, 1) := by decide +kernel
theorem dX3_costBehind_13 : decode cX3_costBehind 13 = .ok (.iconst 1, 1) := by decide +kernel
theorem dX3_costBehind_14 : decode cX3_costBehind 14 = .ok (.iadd, 1) := by decide +kernel
theorem dX3_costBehind_15 : decode cX3_costBehind 15 = .ok (.iaload, 1) := by decide +kernel
theorem dX3_costBehind_16 : decode cX3_costBehind 16 = .ok (.isub, 1) := by decide +kernel
theorem dX3_costBehind_17 : decode cX3_costBehind 17 = .ok (.aload_n 0, 1) := by decide +kernel
theorem dX3_costBehind_18 : decode cX3_costBehind 18 = .ok (.getfield 34, 3) := by decide +kernel
theorem dX3_costBehind_21 : decode cX3_costBehind 21 = .ok (.iadd, 1) := by decide +kernel
theorem dX3_costBehind_22 : decode cX3_costBehind 22 = .ok (.istore_n 3, 1) := by decide +kernel
theorem dX3_costBehind_23 : decode cX3_costBehind 23 = .ok (.iload_n 3, 1) := by decide +kernel
theorem dX3_costBehind_24 : decode cX3_costBehind 24 = .ok (.aload_n 0, 1) := by decide +kernel
theorem dX3_costBehind_25 : decode cX3_costBehind 25 = .ok (.getfield 31, 3) := by decide +kernel
theorem dX3_costBehind_28 : decode cX3_costBehind 28 = .ok (.isub, 1) := by decide +kernel
theorem dX3_costBehind_29 : decode cX3_costBehind 29 = .ok (.iconst 2, 1) := by decide +kernel
theorem dX3_costBehind_30 : decode cX3_costBehind 30 = .ok (.aload_n 0, 1) := by decide +kernel
theorem dX3_costBehind_31 : decode cX3_costBehind 31 = .ok (.getfield 34, 3) := by decide +kernel
theorem dX3_costBehind_34 : decode cX3_costBehind 34 = .ok (.imul, 1) := by decide +kernel
theorem dX3_costBehind_35 : decode cX3_costBehind 35 = .ok (.invokestatic 49, 3) := by decide +kernel
theorem dX3_costBehind_38 : decode cX3_costBehind 38 = .ok (.istore 4, 2) := by decide +kernel
theorem dX3_costBehind_40 : decode cX3_costBehind 40 = .ok (.iload_n 3, 1) := by decide +kernel
theorem dX3_costBehind_41 : decode cX3_costBehind 41 = .ok (.aload_n 0, 1) := by decide +kernel
theorem dX3_costBehind_42 : decode cX3_costBehind 42 = .ok (.getfield 31, 3) := by decide +kernel
theorem dX3_costBehind_45 : decode cX3_costBehind 45 = .ok (.iadd, 1) := by decide +kernel
theorem dX3_costBehind_46 : decode cX3_costBehind 46 = .ok (.iconst 0, 1) := by decide +kernel
theorem dX3_costBehind_47 : decode cX3_costBehind 47 = .ok (.invokestatic 84, 3) := by decide +kernel
theorem dX3_costBehind_50 : decode cX3_costBehind 50 = .ok (.istore 5, 2) := by decide +kernel
theorem dX3_costBehind_52 : decode cX3_costBehind 52 = .ok (.iload 4, 2) := by decide +kernel
theorem dX3_costBehind_54 : decode cX3_costBehind 54 = .ok (.ifCond .ge 8, 3) := by decide +kernel
theorem dX3_costBehind_57 : decode cX3_costBehind 57 = .ok (.ldc 73, 2) := by decide +kernel
theorem dX3_costBehind_59 : decode cX3_costBehind 59 = .ok (.goto 10, 3) := by decide +kernel
theorem dX3_costBehind_62 : decode cX3_costBehind 62 = .ok (.aload_n 0, 1) := by decide +kernel
theorem dX3_costBehind_63 : decode cX3_costBehind 63 = .ok (.getfield 18, 3) := by decide +kernel
theorem dX3_costBehind_66 : decode cX3_costBehind 66 = .ok (.iload 4, 2) := by decide +kernel
theorem dX3_costBehind_68 : decode cX3_costBehind 68 = .ok (.iaload, 1) := by decide +kernel
theorem dX3_costBehind_69 : decode cX3_costBehind 69 = .ok (.istore 6, 2) := by decide +kernel
theorem dX3_costBehind_71 : decode cX3_costBehind 71 = .ok (.iload 5, 2) := by decide +kernel
theorem dX3_costBehind_73 : decode cX3_costBehind 73 = .ok (.iconst 2, 1) := by decide +kernel
theorem dX3_costBehind_74 : decode cX3_costBehind 74 = .ok (.aload_n 0, 1) := by decide +kernel
theorem dX3_costBehind_75 : decode cX3_costBehind 75 = .ok (.getfield 34, 3) := by decide +kernel
theorem dX3_costBehind_78 : decode cX3_costBehind 78 = .ok (.imul, 1) := by decide +kernel
theorem dX3_costBehind_79 : decode cX3_costBehind 79 = .ok (.if_icmp .le 8, 3) := by decide +kernel
theorem dX3_costBehind_82 : decode cX3_costBehind 82 = .ok (.ldc 73, 2) := by decide +kernel
theorem dX3_costBehind_84 : decode cX3_costBehind 84 = .ok (.goto 10, 3) := by decide +kernel
theorem dX3_costBehind_87 : decode cX3_costBehind 87 = .ok (.aload_n 0, 1) := by decide +kernel
theorem dX3_costBehind_88 : decode cX3_costBehind 88 = .ok (.getfield 21, 3) := by decide +kernel
theorem dX3_costBehind_91 : decode cX3_costBehind 91 = .ok (.iload 5, 2) := by decide +kernel
theorem dX3_costBehind_93 : decode cX3_costBehind 93 = .ok (.iaload, 1) := by decide +kernel
theorem dX3_costBehind_94 : decode cX3_costBehind 94 = .ok (.istore 7, 2) := by decide +kernel
theorem dX3_costBehind_96 : decode cX3_costBehind 96 = .ok (.iload 6, 2) := by decide +kernel
theorem dX3_costBehind_98 : decode cX3_costBehind 98 = .ok (.iload 7, 2) := by decide +kernel
theorem dX3_costBehind_100 : decode cX3_costBehind 100 = .ok (.invokestatic 49, 3) := by decide +kernel
theorem dX3_costBehind_103 : decode cX3_costBehind 103 = .ok (.ireturn, 1) := by decide +kernel
theorem dX3_gather_0 : decode cX3_gather 0 = .ok (.ldc 73, 2) := by decide +kernel
theorem dX3_gather_2 : decode cX3_gather 2 = .ok (.istore_n 2, 1) := by decide +kernel
theorem dX3_gather_3 : decode cX3_gather 3 = .ok (.iconst 0, 1) := by decide +kernel
theorem dX3_gather_4 : decode cX3_gather 4 = .ok (.istore_n 3, 1) := by decide +kernel
theorem dX3_gather_5 : decode cX3_gather 5 = .ok (.iload_n 3, 1) := by decide +kernel
theorem dX3_gather_6 : decode cX3_gather 6 = .ok (.iconst 2, 1) := by decide +kernel
theorem dX3_gather_7 : decode cX3_gather 7 = .ok (.aload_n 0, 1) := by decide +kernel
theorem dX3_gather_8 : decode cX3_gather 8 = .ok (.getfield 34, 3) := by decide +kernel
theorem dX3_gather_11 : decode cX3_gather 11 = .ok (.imul, 1) := by decide +kernel
theorem dX3_gather_12 : decode cX3_gather 12 = .ok (.if_icmp .gt 32, 3) := by decide +kernel
theorem dX3_gather_15 : decode cX3_gather 15 = .ok (.iload_n 2, 1) := by decide +kernel
theorem dX3_gather_16 : decode cX3_gather 16 = .ok (.aload_n 0, 1) := by decide +kernel
theorem dX3_gather_17 : decode cX3_gather 17 = .ok (.getfield 15, 3) := by decide +kernel
theorem dX3_gather_20 : decode cX3_gather 20 = .ok (.iload_n 1, 1) := by decide +kernel
theorem dX3_gather_21 : decode cX3_gather 21 = .ok (.bipush 41, 2) := by decide +kernel
theorem dX3_gather_23 : decode cX3_gather 23 = .ok (.imul, 1) := by decide +kernel
theorem dX3_gather_24 : decode cX3_gather 24 = .ok (.iload_n 3, 1) := by decide +kernel
theorem dX3_gather_25 : decode cX3_gather 25 = .ok (.iadd, 1) := by decide +kernel
theorem dX3_gather_26 : decode cX3_gather 26 = .ok (.iaload, 1) := by decide +kernel
theorem dX3_gather_27 : decode cX3_gather 27 = .ok (.invokestatic 49, 3) := by decide +kernel
theorem dX3_gather_30 : decode cX3_gather 30 = .ok (.istore_n 2, 1) := by decide +kernel
theorem dX3_gather_31 : decode cX3_gather 31 = .ok (.aload_n 0, 1) := by decide +kernel
theorem dX3_gather_32 : decode cX3_gather 32 = .ok (.getfield 18, 3) := by decide +kernel
theorem dX3_gather_35 : decode cX3_gather 35 = .ok (.iload_n 3, 1) := by decide +kernel
theorem dX3_gather_36 : decode cX3_gather 36 = .ok (.iload_n 2, 1) := by decide +kernel
theorem dX3_gather_37 : decode cX3_gather 37 = .ok (.iastore, 1) := by decide +kernel
theorem dX3_gather_38 : decode cX3_gather 38 = .ok (.iinc 3 1, 3) := by decide +kernel
theorem dX3_gather_41 : decode cX3_gather 41 = .ok (.goto (-36), 3) := by decide +kernel
theorem dX3_gather_44 : decode cX3_gather 44 = .ok (.ldc 73, 2) := by decide +kernel
theorem dX3_gather_46 : decode cX3_gather 46 = .ok (.istore_n 2, 1) := by decide +kernel
theorem dX3_gather_47 : decode cX3_gather 47 = .ok (.iconst 2, 1) := by decide +kernel
theorem dX3_gather_48 : decode cX3_gather 48 = .ok (.aload_n 0, 1) := by decide +kernel
theorem dX3_gather_49 : decode cX3_gather 49 = .ok (.getfield 34, 3) := by decide +kernel
theorem dX3_gather_52 : decode cX3_gather 52 = .ok (.imul, 1) := by decide +kernel
theorem dX3_gather_53 : decode cX3_gather 53 = .ok (.istore_n 3, 1) := by decide +kernel
theorem dX3_gather_54 : decode cX3_gather 54 = .ok (.iload_n 3, 1) := by decide +kernel
theorem dX3_gather_55 : decode cX3_gather 55 = .ok (.ifCond .lt 32, 3) := by decide +kernel
theorem dX3_gather_58 : decode cX3_gather 58 = .ok (.iload_n 2, 1) := by decide +kernel
theorem dX3_gather_59 : decode cX3_gather 59 = .ok (.aload_n 0, 1) := by decide +kernel
theorem dX3_gather_60 : decode cX3_gather 60 = .ok (.getfield 15, 3) := by decide +kernel
theorem dX3_gather_63 : decode cX3_gather 63 = .ok (.iload_n 1, 1) := by decide +kernel
theorem dX3_gather_64 : decode cX3_gather 64 = .ok (.bipush 41, 2) := by decide +kernel
theorem dX3_gather_66 : decode cX3_gather 66 = .ok (.imul, 1) := by decide +kernel
theorem dX3_gather_67 : decode cX3_gather 67 = .ok (.iload_n 3, 1) := by decide +kernel
theorem dX3_gather_68 : decode cX3_gather 68 = .ok (.iadd, 1) := by decide +kernel
theorem dX3_gather_69 : decode cX3_gather 69 = .ok (.iaload, 1) := by decide +kernel
theorem dX3_gather_70 : decode cX3_gather 70 = .ok (.invokestatic 49, 3) := by decide +kernel
theorem dX3_gather_73 : decode cX3_gather 73 = .ok (.istore_n 2, 1) := by decide +kernel
theorem dX3_gather_74 : decode cX3_gather 74 = .ok (.aload_n 0, 1) := by decide +kernel
theorem dX3_gather_75 : decode cX3_gather 75 = .ok (.getfield 21, 3) := by decide +kernel
theorem dX3_gather_78 : decode cX3_gather 78 = .ok (.iload_n 3, 1) := by decide +kernel
theorem dX3_gather_79 : decode cX3_gather 79 = .ok (.iload_n 2, 1) := by decide +kernel
theorem dX3_gather_80 : decode cX3_gather 80 = .ok (.iastore, 1) := by decide +kernel
theorem dX3_gather_81 : decode cX3_gather 81 = .ok (.iinc 3 (-1), 3) := by decide +kernel
theorem dX3_gather_84 : decode cX3_gather 84 = .ok (.goto (-30), 3) := by decide +kernel
theorem dX3_gather_87 : decode cX3_gather 87 = .ok (.return_, 1) := by decide +kernel
theorem dX3_follow_0 : decode cX3_follow 0 = .ok (.aload_n 0, 1) := by decide +kernel
theorem dX3_follow_1 : decode cX3_follow 1 = .ok (.getfield 37, 3) := by decide +kernel
theorem dX3_follow_4 : decode cX3_follow 4 = .ok (.istore_n 1, 1) := by decide +kernel
theorem dX3_follow_5 : decode cX3_follow 5 = .ok (.aload_n 0, 1) := by decide +kernel
theorem dX3_follow_6 : decode cX3_follow 6 = .ok (.iconst 0, 1) := by decide +kernel
theorem dX3_follow_7 : decode cX3_follow 7 = .ok (.putfield 40, 3) := by decide +kernel
theorem dX3_follow_10 : decode cX3_follow 10 = .ok (.aload_n 0, 1) := by decide +kernel
theorem dX3_follow_11 : decode cX3_follow 11 = .ok (.iconst 0, 1) := by decide +kernel
theorem dX3_follow_12 : decode cX3_follow 12 = .ok (.putfield 43, 3) := by decide +kernel
theorem dX3_follow_15 : decode cX3_follow 15 = .ok (.iconst 0, 1) := by decide +kernel
theorem dX3_follow_16 : decode cX3_follow 16 = .ok (.istore_n 2, 1) := by decide +kernel
theorem dX3_follow_17 : decode cX3_follow 17 = .ok (.iload_n 2, 1) := by decide +kernel
theorem dX3_follow_18 : decode cX3_follow 18 = .ok (.aload_n 0, 1) := by decide +kernel
theorem dX3_follow_19 : decode cX3_follow 19 = .ok (.getfield 27, 3) := by decide +kernel
theorem dX3_follow_22 : decode cX3_follow 22 = .ok (.if_icmp .ge 61, 3) := by decide +kernel
theorem dX3_follow_25 : decode cX3_follow 25 = .ok (.aload_n 0, 1) := by decide +kernel
theorem dX3_follow_26 : decode cX3_follow 26 = .ok (.iload_n 2, 1) := by decide +kernel
theorem dX3_follow_27 : decode cX3_follow 27 = .ok (.iload_n 1, 1) := by decide +kernel
theorem dX3_follow_28 : decode cX3_follow 28 = .ok (.invokevirtual 87, 3) := by decide +kernel
theorem dX3_follow_31 : decode cX3_follow 31 = .ok (.istore_n 3, 1) := by decide +kernel
theorem dX3_follow_32 : decode cX3_follow 32 = .ok (.aload_n 0, 1) := by decide +kernel
theorem dX3_follow_33 : decode cX3_follow 33 = .ok (.getfield 24, 3) := by decide +kernel
theorem dX3_follow_36 : decode cX3_follow 36 = .ok (.iload_n 2, 1) := by decide +kernel
theorem dX3_follow_37 : decode cX3_follow 37 = .ok (.iload_n 3, 1) := by decide +kernel
theorem dX3_follow_38 : decode cX3_follow 38 = .ok (.iastore, 1) := by decide +kernel
theorem dX3_follow_39 : decode cX3_follow 39 = .ok (.iload_n 1, 1) := by decide +kernel
theorem dX3_follow_40 : decode cX3_follow 40 = .ok (.iload_n 3, 1) := by decide +kernel
theorem dX3_follow_41 : decode cX3_follow 41 = .ok (.invokestatic 77, 3) := by decide +kernel
theorem dX3_follow_44 : decode cX3_follow 44 = .ok (.isub, 1) := by decide +kernel
theorem dX3_follow_45 : decode cX3_follow 45 = .ok (.istore_n 1, 1) := by decide +kernel
theorem dX3_follow_46 : decode cX3_follow 46 = .ok (.aload_n 0, 1) := by decide +kernel
theorem dX3_follow_47 : decode cX3_follow 47 = .ok (.dup, 1) := by decide +kernel
theorem dX3_follow_48 : decode cX3_follow 48 = .ok (.getfield 40, 3) := by decide +kernel
theorem dX3_follow_51 : decode cX3_follow 51 = .ok (.iload_n 3, 1) := by decide +kernel
theorem dX3_follow_52 : decode cX3_follow 52 = .ok (.ifCond .ne 7, 3) := by decide +kernel
theorem dX3_follow_55 : decode cX3_follow 55 = .ok (.iconst 0, 1) := by decide +kernel
theorem dX3_follow_56 : decode cX3_follow 56 = .ok (.goto 4, 3) := by decide +kernel
theorem dX3_follow_59 : decode cX3_follow 59 = .ok (.iconst 1, 1) := by decide +kernel
theorem dX3_follow_60 : decode cX3_follow 60 = .ok (.iadd, 1) := by decide +kernel
theorem dX3_follow_61 : decode cX3_follow 61 = .ok (.putfield 40, 3) := by decide +kernel
theorem dX3_follow_64 : decode cX3_follow 64 = .ok (.aload_n 0, 1) := by decide +kernel
theorem dX3_follow_65 : decode cX3_follow 65 = .ok (.dup, 1) := by decide +kernel
theorem dX3_follow_66 : decode cX3_follow 66 = .ok (.getfield 43, 3) := by decide +kernel
theorem dX3_follow_69 : decode cX3_follow 69 = .ok (.iload_n 3, 1) := by decide +kernel
theorem dX3_follow_70 : decode cX3_follow 70 = .ok (.invokestatic 81, 3) := by decide +kernel
theorem dX3_follow_73 : decode cX3_follow 73 = .ok (.iadd, 1) := by decide +kernel
theorem dX3_follow_74 : decode cX3_follow 74 = .ok (.putfield 43, 3) := by decide +kernel
theorem dX3_follow_77 : decode cX3_follow 77 = .ok (.iinc 2 1, 3) := by decide +kernel
theorem dX3_follow_80 : decode cX3_follow 80 = .ok (.goto (-63), 3) := by decide +kernel
theorem dX3_follow_83 : decode cX3_follow 83 = .ok (.return_, 1) := by decide +kernel
theorem dX3_firstMove_0 : decode cX3_firstMove 0 = .ok (.iconst 0, 1) := by decide +kernel
theorem dX3_firstMove_1 : decode cX3_firstMove 1 = .ok (.istore_n 3, 1) := by decide +kernel
theorem dX3_firstMove_2 : decode cX3_firstMove 2 = .ok (.iload_n 3, 1) := by decide +kernel
theorem dX3_firstMove_3 : decode cX3_firstMove 3 = .ok (.aload_n 0, 1) := by decide +kernel
theorem dX3_firstMove_4 : decode cX3_firstMove 4 = .ok (.getfield 34, 3) := by decide +kernel
theorem dX3_firstMove_7 : decode cX3_firstMove 7 = .ok (.if_icmp .gt 35, 3) := by decide +kernel
theorem dX3_firstMove_10 : decode cX3_firstMove 10 = .ok (.aload_n 0, 1) := by decide +kernel
theorem dX3_firstMove_11 : decode cX3_firstMove 11 = .ok (.iload_n 1, 1) := by decide +kernel
theorem dX3_firstMove_12 : decode cX3_firstMove 12 = .ok (.iload_n 3, 1) := by decide +kernel
theorem dX3_firstMove_13 : decode cX3_firstMove 13 = .ok (.ineg, 1) := by decide +kernel
theorem dX3_firstMove_14 : decode cX3_firstMove 14 = .ok (.iload_n 2, 1) := by decide +kernel
theorem dX3_firstMove_15 : decode cX3_firstMove 15 = .ok (.invokevirtual 90, 3) := by decide +kernel
theorem dX3_firstMove_18 : decode cX3_firstMove 18 = .ok (.ifCond .eq 6, 3) := by decide +kernel
theorem dX3_firstMove_21 : decode cX3_firstMove 21 = .ok (.iload_n 3, 1) := by decide +kernel
theorem dX3_firstMove_22 : decode cX3_firstMove 22 = .ok (.ineg, 1) := by decide +kernel
theorem dX3_firstMove_23 : decode cX3_firstMove 23 = .ok (.ireturn, 1) := by decide +kernel
theorem dX3_firstMove_24 : decode cX3_firstMove 24 = .ok (.aload_n 0, 1) := by decide +kernel
theorem dX3_firstMove_25 : decode cX3_firstMove 25 = .ok (.iload_n 1, 1) := by decide +kernel
theorem dX3_firstMove_26 : decode cX3_firstMove 26 = .ok (.iload_n 3, 1) := by decide +kernel
theorem dX3_firstMove_27 : decode cX3_firstMove 27 = .ok (.iload_n 2, 1) := by decide +kernel
theorem dX3_firstMove_28 : decode cX3_firstMove 28 = .ok (.invokevirtual 90, 3) := by decide +kernel
theorem dX3_firstMove_31 : decode cX3_firstMove 31 = .ok (.ifCond .eq 5, 3) := by decide +kernel
theorem dX3_firstMove_34 : decode cX3_firstMove 34 = .ok (.iload_n 3, 1) := by decide +kernel
theorem dX3_firstMove_35 : decode cX3_firstMove 35 = .ok (.ireturn, 1) := by decide +kernel
theorem dX3_firstMove_36 : decode cX3_firstMove 36 = .ok (.iinc 3 1, 3) := by decide +kernel
theorem dX3_firstMove_39 : decode cX3_firstMove 39 = .ok (.goto (-37), 3) := by decide +kernel
theorem dX3_firstMove_42 : decode cX3_firstMove 42 = .ok (.iconst 0, 1) := by decide +kernel
theorem dX3_firstMove_43 : decode cX3_firstMove 43 = .ok (.ireturn, 1) := by decide +kernel
theorem dX3_fits_0 : decode cX3_fits 0 = .ok (.aload_n 0, 1) := by decide +kernel
theorem dX3_fits_1 : decode cX3_fits 1 = .ok (.getfield 15, 3) := by decide +kernel
theorem dX3_fits_4 : decode cX3_fits 4 = .ok (.iload_n 1, 1) := by decide +kernel
theorem dX3_fits_5 : decode cX3_fits 5 = .ok (.bipush 41, 2) := by decide +kernel
theorem dX3_fits_7 : decode cX3_fits 7 = .ok (.imul, 1) := by decide +kernel
theorem dX3_fits_8 : decode cX3_fits 8 = .ok (.aload_n 0, 1) := by decide +kernel
theorem dX3_fits_9 : decode cX3_fits 9 = .ok (.getfield 34, 3) := by decide +kernel
theorem dX3_fits_12 : decode cX3_fits 12 = .ok (.iadd, 1) := by decide +kernel
theorem dX3_fits_13 : decode cX3_fits 13 = .ok (.iload_n 2, 1) := by decide +kernel
theorem dX3_fits_14 : decode cX3_fits 14 = .ok (.iadd, 1) := by decide +kernel
theorem dX3_fits_15 : decode cX3_fits 15 = .ok (.iaload, 1) := by decide +kernel
theorem dX3_fits_16 : decode cX3_fits 16 = .ok (.iload_n 3, 1) := by decide +kernel
theorem dX3_fits_17 : decode cX3_fits 17 = .ok (.if_icmp .eq 5, 3) := by decide +kernel
theorem dX3_fits_20 : decode cX3_fits 20 = .ok (.iconst 0, 1) := by decide +kernel
theorem dX3_fits_21 : decode cX3_fits 21 = .ok (.ireturn, 1) := by decide +kernel
theorem dX3_fits_22 : decode cX3_fits 22 = .ok (.iload_n 1, 1) := by decide +kernel
theorem dX3_fits_23 : decode cX3_fits 23 = .ok (.ifCond .eq 39, 3) := by decide +kernel
theorem dX3_fits_26 : decode cX3_fits 26 = .ok (.aload_n 0, 1) := by decide +kernel
theorem dX3_fits_27 : decode cX3_fits 27 = .ok (.getfield 9, 3) := by decide +kernel
theorem dX3_fits_30 : decode cX3_fits 30 = .ok (.iload_n 1, 1) := by decide +kernel
theorem dX3_fits_31 : decode cX3_fits 31 = .ok (.iaload, 1) := by decide +kernel
theorem dX3_fits_32 : decode cX3_fits 32 = .ok (.iload_n 2, 1) := by decide +kernel
theorem dX3_fits_33 : decode cX3_fits 33 = .ok (.iadd, 1) := by decide +kernel
theorem dX3_fits_34 : decode cX3_fits 34 = .ok (.aload_n 0, 1) := by decide +kernel
theorem dX3_fits_35 : decode cX3_fits 35 = .ok (.getfield 9, 3) := by decide +kernel
theorem dX3_fits_38 : decode cX3_fits 38 = .ok (.iload_n 1, 1) := by decide +kernel
theorem dX3_fits_39 : decode cX3_fits 39 = .ok (.iconst 1, 1) := by decide +kernel
theorem dX3_fits_40 : decode cX3_fits 40 = .ok (.isub, 1) := by decide +kernel
theorem dX3_fits_41 : decode cX3_fits 41 = .ok (.iaload, 1) := by decide +kernel
theorem dX3_fits_42 : decode cX3_fits 42 = .ok (.isub, 1) := by decide +kernel
theorem dX3_fits_43 : decode cX3_fits 43 = .ok (.aload_n 0, 1) := by decide +kernel
theorem dX3_fits_44 : decode cX3_fits 44 = .ok (.getfield 24, 3) := by decide +kernel
theorem dX3_fits_47 : decode cX3_fits 47 = .ok (.iload_n 1, 1) := by decide +kernel
theorem dX3_fits_48 : decode cX3_fits 48 = .ok (.iconst 1, 1) := by decide +kernel
theorem dX3_fits_49 : decode cX3_fits 49 = .ok (.isub, 1) := by decide +kernel
theorem dX3_fits_50 : decode cX3_fits 50 = .ok (.iaload, 1) := by decide +kernel
theorem dX3_fits_51 : decode cX3_fits 51 = .ok (.isub, 1) := by decide +kernel
theorem dX3_fits_52 : decode cX3_fits 52 = .ok (.invokestatic 81, 3) := by decide +kernel
theorem dX3_fits_55 : decode cX3_fits 55 = .ok (.aload_n 0, 1) := by decide +kernel
theorem dX3_fits_56 : decode cX3_fits 56 = .ok (.getfield 31, 3) := by decide +kernel
theorem dX3_fits_59 : decode cX3_fits 59 = .ok (.if_icmp .lt 7, 3) := by decide +kernel
theorem dX3_fits_62 : decode cX3_fits 62 = .ok (.iconst 1, 1) := by decide +kernel
theorem dX3_fits_63 : decode cX3_fits 63 = .ok (.goto 4, 3) := by decide +kernel
theorem dX3_fits_66 : decode cX3_fits 66 = .ok (.iconst 0, 1) := by decide +kernel
theorem dX3_fits_67 : decode cX3_fits 67 = .ok (.ireturn, 1) := by decide +kernel
theorem dX4_init_0 : decode cX4_init 0 = .ok (.aload_n 0, 1) := by decide +kernel
theorem dX4_init_1 : decode cX4_init 1 = .ok (.invokespecial 3, 3) := by decide +kernel
theorem dX4_init_4 : decode cX4_init 4 = .ok (.aload_n 0, 1) := by decide +kernel
theorem dX4_init_5 : decode cX4_init 5 = .ok (.iconst 0, 1) := by decide +kernel
theorem dX4_init_6 : decode cX4_init 6 = .ok (.putfield 11, 3) := by decide +kernel
theorem dX4_init_9 : decode cX4_init 9 = .ok (.aload_n 0, 1) := by decide +kernel
theorem dX4_init_10 : decode cX4_init 10 = .ok (.iconst 0, 1) := by decide +kernel
theorem dX4_init_11 : decode cX4_init 11 = .ok (.putfield 15, 3) := by decide +kernel
theorem dX4_init_14 : decode cX4_init 14 = .ok (.aload_n 0, 1) := by decide +kernel
theorem dX4_init_15 : decode cX4_init 15 = .ok (.iconst 0, 1) := by decide +kernel
theorem dX4_init_16 : decode cX4_init 16 = .ok (.putfield 18, 3) := by decide +kernel
theorem dX4_init_19 : decode cX4_init 19 = .ok (.aload_n 0, 1) := by decide +kernel
theorem dX4_init_20 : decode cX4_init 20 = .ok (.iconst 0, 1) := by decide +kernel
theorem dX4_init_21 : decode cX4_init 21 = .ok (.putfield 21, 3) := by decide +kernel
theorem dX4_init_24 : decode cX4_init 24 = .ok (.aload_n 0, 1) := by decide +kernel
theorem dX4_init_25 : decode cX4_init 25 = .ok (.iconst 0, 1) := by decide +kernel
theorem dX4_init_26 : decode cX4_init 26 = .ok (.putfield 24, 3) := by decide +kernel
theorem dX4_init_29 : decode cX4_init 29 = .ok (.aload_n 0, 1) := by decide +kernel
theorem dX4_init_30 : decode cX4_init 30 = .ok (.iconst 0, 1) := by decide +kernel
theorem dX4_init_31 : decode cX4_init 31 = .ok (.putfield 27, 3) := by decide +kernel
theorem dX4_init_34 : decode cX4_init 34 = .ok (.return_, 1) := by decide +kernel
theorem dX4_begin_0 : decode cX4_begin 0 = .ok (.aload_n 0, 1) := by decide +kernel
theorem dX4_begin_1 : decode cX4_begin 1 = .ok (.iload_n 1, 1) := by decide +kernel
theorem dX4_begin_2 : decode cX4_begin 2 = .ok (.putfield 11, 3) := by decide +kernel
theorem dX4_begin_5 : decode cX4_begin 5 = .ok (.aload_n 0, 1) := by decide +kernel
theorem dX4_begin_6 : decode cX4_begin 6 = .ok (.iload_n 2, 1) := by decide +kernel
theorem dX4_begin_7 : decode cX4_begin 7 = .ok (.putfield 15, 3) := by decide +kernel
theorem dX4_begin_10 : decode cX4_begin 10 = .ok (.aload_n 0, 1) := by decide +kernel
theorem dX4_begin_11 : decode cX4_begin 11 = .ok (.iload_n 3, 1) := by decide +kernel
theorem dX4_begin_12 : decode cX4_begin 12 = .ok (.putfield 18, 3) := by decide +kernel
theorem dX4_begin_15 : decode cX4_begin 15 = .ok (.aload_n 0, 1) := by decide +kernel
theorem dX4_begin_16 : decode cX4_begin 16 = .ok (.iload 4, 2) := by decide +kernel
theorem dX4_begin_18 : decode cX4_begin 18 = .ok (.putfield 21, 3) := by decide +kernel
theorem dX4_begin_21 : decode cX4_begin 21 = .ok (.aload_n 0, 1) := by decide +kernel
theorem dX4_begin_22 : decode cX4_begin 22 = .ok (.iload 5, 2) := by decide +kernel
theorem dX4_begin_24 : decode cX4_begin 24 = .ok (.putfield 24, 3) := by decide +kernel
theorem dX4_begin_27 : decode cX4_begin 27 = .ok (.aload_n 0, 1) := by decide +kernel
theorem dX4_begin_28 : decode cX4_begin 28 = .ok (.iconst 0, 1) := by decide +kernel
theorem dX4_begin_29 : decode cX4_begin 29 = .ok (.putfield 27, 3) := by decide +kernel
theorem dX4_begin_32 : decode cX4_begin 32 = .ok (.return_, 1) := by decide +kernel
theorem dX4_become_0 : decode cX4_become 0 = .ok (.aload_n 0, 1) := by decide +kernel
theorem dX4_become_1 : decode cX4_become 1 = .ok (.aload_n 1, 1) := by decide +kernel
theorem dX4_become_2 : decode cX4_become 2 = .ok (.getfield 11, 3) := by decide +kernel
theorem dX4_become_5 : decode cX4_become 5 = .ok (.aload_n 1, 1) := by decide +kernel
theorem dX4_become_6 : decode cX4_become 6 = .ok (.getfield 15, 3) := by decide +kernel
theorem dX4_become_9 : decode cX4_become 9 = .ok (.aload_n 1, 1) := by decide +kernel
theorem dX4_become_10 : decode cX4_become 10 = .ok (.getfield 18, 3) := by decide +kernel
theorem dX4_become_13 : decode cX4_become 13 = .ok (.aload_n 1, 1) := by decide +kernel
theorem dX4_become_14 : decode cX4_become 14 = .ok (.getfield 21, 3) := by decide +kernel
theorem dX4_become_17 : decode cX4_become 17 = .ok (.aload_n 1, 1) := by decide +kernel
theorem dX4_become_18 : decode cX4_become 18 = .ok (.getfield 24, 3) := by decide +kernel
theorem dX4_become_21 : decode cX4_become 21 = .ok (.invokevirtual 30, 3) := by decide +kernel
theorem dX4_become_24 : decode cX4_become 24 = .ok (.aload_n 0, 1) := by decide +kernel
theorem dX4_become_25 : decode cX4_become 25 = .ok (.aload_n 1, 1) := by decide +kernel
theorem dX4_become_26 : decode cX4_become 26 = .ok (.getfield 27, 3) := by decide +kernel
theorem dX4_become_29 : decode cX4_become 29 = .ok (.putfield 27, 3) := by decide +kernel
theorem dX4_become_32 : decode cX4_become 32 = .ok (.return_, 1) := by decide +kernel
theorem dX4_isOneOf_0 : decode cX4_isOneOf 0 = .ok (.iload_n 1, 1) := by decide +kernel
theorem dX4_isOneOf_1 : decode cX4_isOneOf 1 = .ok (.ifCond .eq 23, 3) := by decide +kernel
theorem dX4_isOneOf_4 : decode cX4_isOneOf 4 = .ok (.iload_n 1, 1) := by decide +kernel
theorem dX4_isOneOf_5 : decode cX4_isOneOf 5 = .ok (.aload_n 0, 1) := by decide +kernel
theorem dX4_isOneOf_6 : decode cX4_isOneOf 6 = .ok (.getfield 11, 3) := by decide +kernel
theorem dX4_isOneOf_9 : decode cX4_isOneOf 9 = .ok (.if_icmp .eq 15, 3) := by decide +kernel
theorem dX4_isOneOf_12 : decode cX4_isOneOf 12 = .ok (.iload_n 1, 1) := by decide +kernel
theorem dX4_isOneOf_13 : decode cX4_isOneOf 13 = .ok (.getstatic 34, 3) := by decide +kernel
theorem dX4_isOneOf_16 : decode cX4_isOneOf 16 = .ok (.aload_n 0, 1) := by decide +kernel
theorem dX4_isOneOf_17 : decode cX4_isOneOf 17 = .ok (.getfield 11, 3) := by decide +kernel
theorem dX4_isOneOf_20 : decode cX4_isOneOf 20 = .ok (.iaload, 1) := by decide +kernel
theorem dX4_isOneOf_21 : decode cX4_isOneOf 21 = .ok (.if_icmp .ne 7, 3) := by decide +kernel
theorem dX4_isOneOf_24 : decode cX4_isOneOf 24 = .ok (.iconst 1, 1) := by decide +kernel
theorem dX4_isOneOf_25 : decode cX4_isOneOf 25 = .ok (.goto 4, 3) := by decide +kernel
theorem dX4_isOneOf_28 : decode cX4_isOneOf 28 = .ok (.iconst 0, 1) := by decide +kernel
theorem dX4_isOneOf_29 : decode cX4_isOneOf 29 = .ok (.ireturn, 1) := by decide +kernel
theorem dX4_strikeAt_0 : decode cX4_strikeAt 0 = .ok (.iload_n 1, 1) := by decide +kernel
theorem dX4_strikeAt_1 : decode cX4_strikeAt 1 = .ok (.aload_n 0, 1) := by decide +kernel
theorem dX4_strikeAt_2 : decode cX4_strikeAt 2 = .ok (.getfield 18, 3) := by decide +kernel
theorem dX4_strikeAt_5 : decode cX4_strikeAt 5 = .ok (.if_icmp .le 12, 3) := by decide +kernel
theorem dX4_strikeAt_8 : decode cX4_strikeAt 8 = .ok (.iload_n 1, 1) := by decide +kernel
theorem dX4_strikeAt_9 : decode cX4_strikeAt 9 = .ok (.aload_n 0, 1) := by decide +kernel
theorem dX4_strikeAt_10 : decode cX4_strikeAt 10 = .ok (.getfield 18, 3) := by decide +kernel
theorem dX4_strikeAt_13 : decode cX4_strikeAt 13 = .ok (.isub, 1) := by decide +kernel
theorem dX4_strikeAt_14 : decode cX4_strikeAt 14 = .ok (.goto 9, 3) := by decide +kernel
theorem dX4_strikeAt_17 : decode cX4_strikeAt 17 = .ok (.aload_n 0, 1) := by decide +kernel
theorem dX4_strikeAt_18 : decode cX4_strikeAt 18 = .ok (.getfield 18, 3) := by decide +kernel
theorem dX4_strikeAt_21 : decode cX4_strikeAt 21 = .ok (.iload_n 1, 1) := by decide +kernel
theorem dX4_strikeAt_22 : decode cX4_strikeAt 22 = .ok (.isub, 1) := by decide +kernel
theorem dX4_strikeAt_23 : decode cX4_strikeAt 23 = .ok (.istore_n 2, 1) := by decide +kernel
theorem dX4_strikeAt_24 : decode cX4_strikeAt 24 = .ok (.aload_n 0, 1) := by decide +kernel
theorem dX4_strikeAt_25 : decode cX4_strikeAt 25 = .ok (.getfield 11, 3) := by decide +kernel
theorem dX4_strikeAt_28 : decode cX4_strikeAt 28 = .ok (.iconst 2, 1) := by decide +kernel
theorem dX4_strikeAt_29 : decode cX4_strikeAt 29 = .ok (.if_icmp .eq 11, 3) := by decide +kernel
theorem dX4_strikeAt_32 : decode cX4_strikeAt 32 = .ok (.aload_n 0, 1) := by decide +kernel
theorem dX4_strikeAt_33 : decode cX4_strikeAt 33 = .ok (.getfield 11, 3) := by decide +kernel
theorem dX4_strikeAt_36 : decode cX4_strikeAt 36 = .ok (.iconst 4, 1) := by decide +kernel
theorem dX4_strikeAt_37 : decode cX4_strikeAt 37 = .ok (.if_icmp .ne 7, 3) := by decide +kernel
theorem dX4_strikeAt_40 : decode cX4_strikeAt 40 = .ok (.iconst 1, 1) := by decide +kernel
theorem dX4_strikeAt_41 : decode cX4_strikeAt 41 = .ok (.goto 4, 3) := by decide +kernel
theorem dX4_strikeAt_44 : decode cX4_strikeAt 44 = .ok (.iconst 0, 1) := by decide +kernel
theorem dX4_strikeAt_45 : decode cX4_strikeAt 45 = .ok (.istore_n 3, 1) := by decide +kernel
theorem dX4_strikeAt_46 : decode cX4_strikeAt 46 = .ok (.aload_n 0, 1) := by decide +kernel
theorem dX4_strikeAt_47 : decode cX4_strikeAt 47 = .ok (.getfield 11, 3) := by decide +kernel
theorem dX4_strikeAt_50 : decode cX4_strikeAt 50 = .ok (.iconst 3, 1) := by decide +kernel
theorem dX4_strikeAt_51 : decode cX4_strikeAt 51 = .ok (.if_icmp .ne 9, 3) := by decide +kernel
theorem dX4_strikeAt_54 : decode cX4_strikeAt 54 = .ok (.iload_n 2, 1) := by decide +kernel
theorem dX4_strikeAt_55 : decode cX4_strikeAt 55 = .ok (.iconst 2, 1) := by decide +kernel
theorem dX4_strikeAt_56 : decode cX4_strikeAt 56 = .ok (.idiv, 1) := by decide +kernel
theorem dX4_strikeAt_57 : decode cX4_strikeAt 57 = .ok (.goto 18, 3) := by decide +kernel
theorem dX4_strikeAt_60 : decode cX4_strikeAt 60 = .ok (.iload_n 3, 1) := by decide +kernel
theorem dX4_strikeAt_61 : decode cX4_strikeAt 61 = .ok (.ifCond .eq 13, 3) := by decide +kernel
theorem dX4_strikeAt_64 : decode cX4_strikeAt 64 = .ok (.iload_n 2, 1) := by decide +kernel
theorem dX4_strikeAt_65 : decode cX4_strikeAt 65 = .ok (.ifCond .le 9, 3) := by decide +kernel
theorem dX4_strikeAt_68 : decode cX4_strikeAt 68 = .ok (.iload_n 2, 1) := by decide +kernel
theorem dX4_strikeAt_69 : decode cX4_strikeAt 69 = .ok (.iconst 1, 1) := by decide +kernel
theorem dX4_strikeAt_70 : decode cX4_strikeAt 70 = .ok (.iadd, 1) := by decide +kernel
theorem dX4_strikeAt_71 : decode cX4_strikeAt 71 = .ok (.goto 4, 3) := by decide +kernel
theorem dX4_strikeAt_74 : decode cX4_strikeAt 74 = .ok (.iload_n 2, 1) := by decide +kernel
theorem dX4_strikeAt_75 : decode cX4_strikeAt 75 = .ok (.istore 4, 2) := by decide +kernel
theorem dX4_strikeAt_77 : decode cX4_strikeAt 77 = .ok (.aload_n 0, 1) := by decide +kernel
theorem dX4_strikeAt_78 : decode cX4_strikeAt 78 = .ok (.getfield 21, 3) := by decide +kernel
theorem dX4_strikeAt_81 : decode cX4_strikeAt 81 = .ok (.iconst 1, 1) := by decide +kernel
theorem dX4_strikeAt_82 : decode cX4_strikeAt 82 = .ok (.iadd, 1) := by decide +kernel
theorem dX4_strikeAt_83 : decode cX4_strikeAt 83 = .ok (.istore 5, 2) := by decide +kernel
theorem dX4_strikeAt_85 : decode cX4_strikeAt 85 = .ok (.iload 5, 2) := by decide +kernel
theorem dX4_strikeAt_87 : decode cX4_strikeAt 87 = .ok (.iconst 1, 1) := by decide +kernel
theorem dX4_strikeAt_88 : decode cX4_strikeAt 88 = .ok (.if_icmp .lt 10, 3) := by decide +kernel
theorem dX4_strikeAt_91 : decode cX4_strikeAt 91 = .ok (.iload 4, 2) := by decide +kernel
theorem dX4_strikeAt_93 : decode cX4_strikeAt 93 = .ok (.iload 5, 2) := by decide +kernel
theorem dX4_strikeAt_95 : decode cX4_strikeAt 95 = .ok (.if_icmp .lt 7, 3) := by decide +kernel
theorem dX4_strikeAt_98 : decode cX4_strikeAt 98 = .ok (.iconst 0, 1) := by decide +kernel
theorem dX4_strikeAt_99 : decode cX4_strikeAt 99 = .ok (.goto 16, 3) := by decide +kernel
theorem dX4_strikeAt_102 : decode cX4_strikeAt 102 = .ok (.aload_n 0, 1) := by decide +kernel
theorem dX4_strikeAt_103 : decode cX4_strikeAt 103 = .ok (.getfield 24, 3) := by decide +kernel
theorem dX4_strikeAt_106 : decode cX4_strikeAt 106 = .ok (.iload 5, 2) := by decide +kernel
theorem dX4_strikeAt_108 : decode cX4_strikeAt 108 = .ok (.iload 4, 2) := by decide +kernel
theorem dX4_strikeAt_110 : decode cX4_strikeAt 110 = .ok (.isub, 1) := by decide +kernel
theorem dX4_strikeAt_111 : decode cX4_strikeAt 111 = .ok (.imul, 1) := by decide +kernel
theorem dX4_strikeAt_112 : decode cX4_strikeAt 112 = .ok (.iload 5, 2) := by decide +kernel
theorem dX4_strikeAt_114 : decode cX4_strikeAt 114 = .ok (.idiv, 1) := by decide +kernel
theorem dX4_strikeAt_115 : decode cX4_strikeAt 115 = .ok (.istore 6, 2) := by decide +kernel
theorem dX4_strikeAt_117 : decode cX4_strikeAt 117 = .ok (.iload 6, 2) := by decide +kernel
theorem dX4_strikeAt_119 : decode cX4_strikeAt 119 = .ok (.iload 6, 2) := by decide +kernel
theorem dX4_strikeAt_121 : decode cX4_strikeAt 121 = .ok (.iconst 2, 1) := by decide +kernel
theorem dX4_strikeAt_122 : decode cX4_strikeAt 122 = .ok (.idiv, 1) := by decide +kernel
theorem dX4_strikeAt_123 : decode cX4_strikeAt 123 = .ok (.iadd, 1) := by decide +kernel
theorem dX4_strikeAt_124 : decode cX4_strikeAt 124 = .ok (.istore 7, 2) := by decide +kernel
theorem dX4_strikeAt_126 : decode cX4_strikeAt 126 = .ok (.iload 7, 2) := by decide +kernel
theorem dX4_strikeAt_128 : decode cX4_strikeAt 128 = .ok (.ldc 38, 2) := by decide +kernel
theorem dX4_strikeAt_130 : decode cX4_strikeAt 130 = .ok (.if_icmp .le 8, 3) := by decide +kernel
theorem dX4_strikeAt_133 : decode cX4_strikeAt 133 = .ok (.ldc 38, 2) := by decide +kernel
theorem dX4_strikeAt_135 : decode cX4_strikeAt 135 = .ok (.goto 5, 3) := by decide +kernel
theorem dX4_strikeAt_138 : decode cX4_strikeAt 138 = .ok (.iload 7, 2) := by decide +kernel
theorem dX4_strikeAt_140 : decode cX4_strikeAt 140 = .ok (.istore 8, 2) := by decide +kernel
theorem dX4_strikeAt_142 : decode cX4_strikeAt 142 = .ok (.aload_n 0, 1) := by decide +kernel
theorem dX4_strikeAt_143 : decode cX4_strikeAt 143 = .ok (.getfield 11, 3) := by decide +kernel
theorem dX4_strikeAt_146 : decode cX4_strikeAt 146 = .ok (.tableswitch 47 1 5 #[34, 47, 47, 37, 42], 34) := by decide +kernel
theorem dX4_strikeAt_180 : decode cX4_strikeAt 180 = .ok (.iload 8, 2) := by decide +kernel
theorem dX4_strikeAt_182 : decode cX4_strikeAt 182 = .ok (.ireturn, 1) := by decide +kernel
theorem dX4_strikeAt_183 : decode cX4_strikeAt 183 = .ok (.iload 6, 2) := by decide +kernel
theorem dX4_strikeAt_185 : decode cX4_strikeAt 185 = .ok (.iconst 2, 1) := by decide +kernel
theorem dX4_strikeAt_186 : decode cX4_strikeAt 186 = .ok (.idiv, 1) := by decide +kernel
theorem dX4_strikeAt_187 : decode cX4_strikeAt 187 = .ok (.ireturn, 1) := by decide +kernel
theorem dX4_strikeAt_188 : decode cX4_strikeAt 188 = .ok (.iload 8, 2) := by decide +kernel
theorem dX4_strikeAt_190 : decode cX4_strikeAt 190 = .ok (.iconst 4, 1) := by decide +kernel
theorem dX4_strikeAt_191 : decode cX4_strikeAt 191 = .ok (.idiv, 1) := by decide +kernel
theorem dX4_strikeAt_192 : decode cX4_strikeAt 192 = .ok (.ireturn, 1) := by decide +kernel
theorem dX4_strikeAt_193 : decode cX4_strikeAt 193 = .ok (.iload 6, 2) := by decide +kernel
theorem dX4_strikeAt_195 : decode cX4_strikeAt 195 = .ok (.ireturn, 1) := by decide +kernel
theorem dX4_chanceBehind_0 : decode cX4_chanceBehind 0 = .ok (.iload_n 2, 1) := by decide +kernel
theorem dX4_chanceBehind_1 : decode cX4_chanceBehind 1 = .ok (.ifCond .eq 7, 3) := by decide +kernel
theorem dX4_chanceBehind_4 : decode cX4_chanceBehind 4 = .ok (.iload_n 1, 1) := by decide +kernel
theorem dX4_chanceBehind_5 : decode cX4_chanceBehind 5 = .ok (.goto 7, 3) := by decide +kernel
theorem dX4_chanceBehind_8 : decode cX4_chanceBehind 8 = .ok (.bipush 100, 2) := by decide +kernel
theorem dX4_chanceBehind_10 : decode cX4_chanceBehind 10 = .ok (.iload_n 1, 1) := by decide +kernel
theorem dX4_chanceBehind_11 : decode cX4_chanceBehind 11 = .ok (.isub, 1) := by decide +kernel
theorem dX4_chanceBehind_12 : decode cX4_chanceBehind 12 = .ok (.istore_n 3, 1) := by decide +kernel
theorem dX4_chanceBehind_13 : decode cX4_chanceBehind 13 = .ok (.aload_n 0, 1) := by decide +kernel
theorem dX4_chanceBehind_14 : decode cX4_chanceBehind 14 = .ok (.getfield 24, 3) := by decide +kernel
theorem dX4_chanceBehind_17 : decode cX4_chanceBehind 17 = .ok (.i2l, 1) := by decide +kernel
theorem dX4_chanceBehind_18 : decode cX4_chanceBehind 18 = .ok (.iload_n 3, 1) := by decide +kernel
theorem dX4_chanceBehind_19 : decode cX4_chanceBehind 19 = .ok (.i2l, 1) := by decide +kernel
theorem dX4_chanceBehind_20 : decode cX4_chanceBehind 20 = .ok (.lmul, 1) := by decide +kernel
theorem dX4_chanceBehind_21 : decode cX4_chanceBehind 21 = .ok (.lstore 4, 2) := by decide +kernel
theorem dX4_chanceBehind_23 : decode cX4_chanceBehind 23 = .ok (.ldc 38, 2) := by decide +kernel
theorem dX4_chanceBehind_25 : decode cX4_chanceBehind 25 = .ok (.aload_n 0, 1) := by decide +kernel
theorem dX4_chanceBehind_26 : decode cX4_chanceBehind 26 = .ok (.getfield 24, 3) := by decide +kernel
theorem dX4_chanceBehind_29 : decode cX4_chanceBehind 29 = .ok (.isub, 1) := by decide +kernel
theorem dX4_chanceBehind_30 : decode cX4_chanceBehind 30 = .ok (.i2l, 1) := by decide +kernel
theorem dX4_chanceBehind_31 : decode cX4_chanceBehind 31 = .ok (.bipush 100, 2) := by decide +kernel
theorem dX4_chanceBehind_33 : decode cX4_chanceBehind 33 = .ok (.iload_n 3, 1) := by decide +kernel
theorem dX4_chanceBehind_34 : decode cX4_chanceBehind 34 = .ok (.isub, 1) := by decide +kernel
theorem dX4_chanceBehind_35 : decode cX4_chanceBehind 35 = .ok (.i2l, 1) := by decide +kernel
theorem dX4_chanceBehind_36 : decode cX4_chanceBehind 36 = .ok (.lmul, 1) := by decide +kernel
theorem dX4_chanceBehind_37 : decode cX4_chanceBehind 37 = .ok (.lstore 6, 2) := by decide +kernel
theorem dX4_chanceBehind_39 : decode cX4_chanceBehind 39 = .ok (.lload 4, 2) := by decide +kernel
theorem dX4_chanceBehind_41 : decode cX4_chanceBehind 41 = .ok (.lload 6, 2) := by decide +kernel
theorem dX4_chanceBehind_43 : decode cX4_chanceBehind 43 = .ok (.ladd, 1) := by decide +kernel
theorem dX4_chanceBehind_44 : decode cX4_chanceBehind 44 = .ok (.lstore 8, 2) := by decide +kernel
theorem dX4_chanceBehind_46 : decode cX4_chanceBehind 46 = .ok (.lload 8, 2) := by decide +kernel
theorem dX4_chanceBehind_48 : decode cX4_chanceBehind 48 = .ok (.lconst 0, 1) := by decide +kernel
theorem dX4_chanceBehind_49 : decode cX4_chanceBehind 49 = .ok (.lcmp, 1) := by decide +kernel
theorem dX4_chanceBehind_50 : decode cX4_chanceBehind 50 = .ok (.ifCond .ne 7, 3) := by decide +kernel
theorem dX4_chanceBehind_53 : decode cX4_chanceBehind 53 = .ok (.iconst (-1), 1) := by decide +kernel
theorem dX4_chanceBehind_54 : decode cX4_chanceBehind 54 = .ok (.goto 13, 3) := by decide +kernel
theorem dX4_chanceBehind_57 : decode cX4_chanceBehind 57 = .ok (.lload 4, 2) := by decide +kernel
theorem dX4_chanceBehind_59 : decode cX4_chanceBehind 59 = .ok (.ldc2_w 39, 3) := by decide +kernel
theorem dX4_chanceBehind_62 : decode cX4_chanceBehind 62 = .ok (.lmul, 1) := by decide +kernel
theorem dX4_chanceBehind_63 : decode cX4_chanceBehind 63 = .ok (.lload 8, 2) := by decide +kernel
theorem dX4_chanceBehind_65 : decode cX4_chanceBehind 65 = .ok (.ldiv, 1) := by decide +kernel
theorem dX4_chanceBehind_66 : decode cX4_chanceBehind 66 = .ok (.l2i, 1) := by decide +kernel
theorem dX4_chanceBehind_67 : decode cX4_chanceBehind 67 = .ok (.ireturn, 1) := by decide +kernel
theorem dX4_chanceIfItCanBe_0 : decode cX4_chanceIfItCanBe 0 = .ok (.aload_n 0, 1) := by decide +kernel
theorem dX4_chanceIfItCanBe_1 : decode cX4_chanceIfItCanBe 1 = .ok (.iload_n 1, 1) := by decide +kernel
theorem dX4_chanceIfItCanBe_2 : decode cX4_chanceIfItCanBe 2 = .ok (.iload_n 2, 1) := by decide +kernel
theorem dX4_chanceIfItCanBe_3 : decode cX4_chanceIfItCanBe 3 = .ok (.invokevirtual 41, 3) := by decide +kernel
theorem dX4_chanceIfItCanBe_6 : decode cX4_chanceIfItCanBe 6 = .ok (.istore_n 3, 1) := by decide +kernel
theorem dX4_chanceIfItCanBe_7 : decode cX4_chanceIfItCanBe 7 = .ok (.iload_n 3, 1) := by decide +kernel
theorem dX4_chanceIfItCanBe_8 : decode cX4_chanceIfItCanBe 8 = .ok (.iconst (-1), 1) := by decide +kernel
theorem dX4_chanceIfItCanBe_9 : decode cX4_chanceIfItCanBe 9 = .ok (.if_icmp .ne 10, 3) := by decide +kernel
theorem dX4_chanceIfItCanBe_12 : decode cX4_chanceIfItCanBe 12 = .ok (.aload_n 0, 1) := by decide +kernel
theorem dX4_chanceIfItCanBe_13 : decode cX4_chanceIfItCanBe 13 = .ok (.getfield 24, 3) := by decide +kernel
theorem dX4_chanceIfItCanBe_16 : decode cX4_chanceIfItCanBe 16 = .ok (.goto 4, 3) := by decide +kernel
theorem dX4_chanceIfItCanBe_19 : decode cX4_chanceIfItCanBe 19 = .ok (.iload_n 3, 1) := by decide +kernel
theorem dX4_chanceIfItCanBe_20 : decode cX4_chanceIfItCanBe 20 = .ok (.ireturn, 1) := by decide +kernel
theorem dX4_chanceToTell_0 : decode cX4_chanceToTell 0 = .ok (.aload_n 0, 1) := by decide +kernel
theorem dX4_chanceToTell_1 : decode cX4_chanceToTell 1 = .ok (.getfield 24, 3) := by decide +kernel
theorem dX4_chanceToTell_4 : decode cX4_chanceToTell 4 = .ok (.i2l, 1) := by decide +kernel
theorem dX4_chanceToTell_5 : decode cX4_chanceToTell 5 = .ok (.iload_n 1, 1) := by decide +kernel
theorem dX4_chanceToTell_6 : decode cX4_chanceToTell 6 = .ok (.i2l, 1) := by decide +kernel
theorem dX4_chanceToTell_7 : decode cX4_chanceToTell 7 = .ok (.lmul, 1) := by decide +kernel
theorem dX4_chanceToTell_8 : decode cX4_chanceToTell 8 = .ok (.lstore_n 2, 1) := by decide +kernel
theorem dX4_chanceToTell_9 : decode cX4_chanceToTell 9 = .ok (.ldc 38, 2) := by decide +kernel
theorem dX4_chanceToTell_11 : decode cX4_chanceToTell 11 = .ok (.aload_n 0, 1) := by decide +kernel
theorem dX4_chanceToTell_12 : decode cX4_chanceToTell 12 = .ok (.getfield 24, 3) := by decide +kernel
theorem dX4_chanceToTell_15 : decode cX4_chanceToTell 15 = .ok (.isub, 1) := by decide +kernel
theorem dX4_chanceToTell_16 : decode cX4_chanceToTell 16 = .ok (.i2l, 1) := by decide +kernel
theorem dX4_chanceToTell_17 : decode cX4_chanceToTell 17 = .ok (.bipush 100, 2) := by decide +kernel
theorem dX4_chanceToTell_19 : decode cX4_chanceToTell 19 = .ok (.iload_n 1, 1) := by decide +kernel
theorem dX4_chanceToTell_20 : decode cX4_chanceToTell 20 = .ok (.isub, 1) := by decide +kernel
theorem dX4_chanceToTell_21 : decode cX4_chanceToTell 21 = .ok (.i2l, 1) := by decide +kernel
theorem dX4_chanceToTell_22 : decode cX4_chanceToTell 22 = .ok (.lmul, 1) := by decide +kernel
theorem dX4_chanceToTell_23 : decode cX4_chanceToTell 23 = .ok (.lstore 4, 2) := by decide +kernel
theorem dX4_chanceToTell_25 : decode cX4_chanceToTell 25 = .ok (.lload_n 2, 1) := by decide +kernel
theorem dX4_chanceToTell_26 : decode cX4_chanceToTell 26 = .ok (.lload 4, 2) := by decide +kernel
theorem dX4_chanceToTell_28 : decode cX4_chanceToTell 28 = .ok (.ladd, 1) := by decide +kernel
theorem dX4_chanceToTell_29 : decode cX4_chanceToTell 29 = .ok (.ldc2_w 45, 3) := by decide +kernel
theorem dX4_chanceToTell_32 : decode cX4_chanceToTell 32 = .ok (.ldiv, 1) := by decide +kernel
theorem dX4_chanceToTell_33 : decode cX4_chanceToTell 33 = .ok (.l2i, 1) := by decide +kernel
theorem dX4_chanceToTell_34 : decode cX4_chanceToTell 34 = .ok (.ireturn, 1) := by decide +kernel
theorem dX5_init_0 : decode cX5_init 0 = .ok (.aload_n 0, 1) := by decide +kernel
theorem dX5_init_1 : decode cX5_init 1 = .ok (.invokespecial 3, 3) := by decide +kernel
theorem dX5_init_4 : decode cX5_init 4 = .ok (.aload_n 0, 1) := by decide +kernel
theorem dX5_init_5 : decode cX5_init 5 = .ok (.iconst 0, 1) := by decide +kernel
theorem dX5_init_6 : decode cX5_init 6 = .ok (.putfield 9, 3) := by decide +kernel
theorem dX5_init_9 : decode cX5_init 9 = .ok (.aload_n 0, 1) := by decide +kernel
theorem dX5_init_10 : decode cX5_init 10 = .ok (.iconst 0, 1) := by decide +kernel
theorem dX5_init_11 : decode cX5_init 11 = .ok (.putfield 15, 3) := by decide +kernel
theorem dX5_init_14 : decode cX5_init 14 = .ok (.aload_n 0, 1) := by decide +kernel
theorem dX5_init_15 : decode cX5_init 15 = .ok (.lconst 0, 1) := by decide +kernel
theorem dX5_init_16 : decode cX5_init 16 = .ok (.putfield 18, 3) := by decide +kernel
theorem dX5_init_19 : decode cX5_init 19 = .ok (.aload_n 0, 1) := by decide +kernel
theorem dX5_init_20 : decode cX5_init 20 = .ok (.lconst 0, 1) := by decide +kernel
theorem dX5_init_21 : decode cX5_init 21 = .ok (.putfield 22, 3) := by decide +kernel
theorem dX5_init_24 : decode cX5_init 24 = .ok (.aload_n 0, 1) := by decide +kernel
theorem dX5_init_25 : decode cX5_init 25 = .ok (.bipush 6, 2) := by decide +kernel
theorem dX5_init_27 : decode cX5_init 27 = .ok (.newarray .int, 2) := by decide +kernel
theorem dX5_init_29 : decode cX5_init 29 = .ok (.dup, 1) := by decide +kernel
theorem dX5_init_30 : decode cX5_init 30 = .ok (.iconst 0, 1) := by decide +kernel
theorem dX5_init_31 : decode cX5_init 31 = .ok (.iconst 1, 1) := by decide +kernel
theorem dX5_init_32 : decode cX5_init 32 = .ok (.iastore, 1) := by decide +kernel
theorem dX5_init_33 : decode cX5_init 33 = .ok (.dup, 1) := by decide +kernel
theorem dX5_init_34 : decode cX5_init 34 = .ok (.iconst 1, 1) := by decide +kernel
theorem dX5_init_35 : decode cX5_init 35 = .ok (.bipush 100, 2) := by decide +kernel
theorem dX5_init_37 : decode cX5_init 37 = .ok (.iastore, 1) := by decide +kernel
theorem dX5_init_38 : decode cX5_init 38 = .ok (.dup, 1) := by decide +kernel
theorem dX5_init_39 : decode cX5_init 39 = .ok (.iconst 2, 1) := by decide +kernel
theorem dX5_init_40 : decode cX5_init 40 = .ok (.bipush 10, 2) := by decide +kernel
theorem dX5_init_42 : decode cX5_init 42 = .ok (.iastore, 1) := by decide +kernel
theorem dX5_init_43 : decode cX5_init 43 = .ok (.dup, 1) := by decide +kernel
theorem dX5_init_44 : decode cX5_init 44 = .ok (.iconst 3, 1) := by decide +kernel
theorem dX5_init_45 : decode cX5_init 45 = .ok (.ldc 25, 2) := by decide +kernel
theorem dX5_init_47 : decode cX5_init 47 = .ok (.iastore, 1) := by decide +kernel
theorem dX5_init_48 : decode cX5_init 48 = .ok (.dup, 1) := by decide +kernel
theorem dX5_init_49 : decode cX5_init 49 = .ok (.iconst 4, 1) := by decide +kernel
theorem dX5_init_50 : decode cX5_init 50 = .ok (.iconst 0, 1) := by decide +kernel
theorem dX5_init_51 : decode cX5_init 51 = .ok (.iastore, 1) := by decide +kernel
theorem dX5_init_52 : decode cX5_init 52 = .ok (.dup, 1) := by decide +kernel
theorem dX5_init_53 : decode cX5_init 53 = .ok (.iconst 5, 1) := by decide +kernel
theorem dX5_init_54 : decode cX5_init 54 = .ok (.bipush 9, 2) := by decide +kernel
theorem dX5_init_56 : decode cX5_init 56 = .ok (.iastore, 1) := by decide +kernel
theorem dX5_init_57 : decode cX5_init 57 = .ok (.putfield 26, 3) := by decide +kernel
theorem dX5_init_60 : decode cX5_init 60 = .ok (.aload_n 0, 1) := by decide +kernel
theorem dX5_init_61 : decode cX5_init 61 = .ok (.bipush 12, 2) := by decide +kernel
theorem dX5_init_63 : decode cX5_init 63 = .ok (.anewarray 30, 3) := by decide +kernel
theorem dX5_init_66 : decode cX5_init 66 = .ok (.putfield 32, 3) := by decide +kernel
theorem dX5_init_69 : decode cX5_init 69 = .ok (.aload_n 0, 1) := by decide +kernel
theorem dX5_init_70 : decode cX5_init 70 = .ok (.iconst 0, 1) := by decide +kernel
theorem dX5_init_71 : decode cX5_init 71 = .ok (.putfield 36, 3) := by decide +kernel
theorem dX5_init_74 : decode cX5_init 74 = .ok (.aload_n 0, 1) := by decide +kernel
theorem dX5_init_75 : decode cX5_init 75 = .ok (.bipush 60, 2) := by decide +kernel
theorem dX5_init_77 : decode cX5_init 77 = .ok (.newarray .byte, 2) := by decide +kernel
theorem dX5_init_79 : decode cX5_init 79 = .ok (.putfield 39, 3) := by decide +kernel
theorem dX5_init_82 : decode cX5_init 82 = .ok (.aload_n 0, 1) := by decide +kernel
theorem dX5_init_83 : decode cX5_init 83 = .ok (.iconst 0, 1) := by decide +kernel
theorem dX5_init_84 : decode cX5_init 84 = .ok (.putfield 43, 3) := by decide +kernel
theorem dX5_init_87 : decode cX5_init 87 = .ok (.iconst 0, 1) := by decide +kernel
theorem dX5_init_88 : decode cX5_init 88 = .ok (.istore_n 1, 1) := by decide +kernel
theorem dX5_init_89 : decode cX5_init 89 = .ok (.iload_n 1, 1) := by decide +kernel
theorem dX5_init_90 : decode cX5_init 90 = .ok (.bipush 12, 2) := by decide +kernel
theorem dX5_init_92 : decode cX5_init 92 = .ok (.if_icmp .ge 22, 3) := by decide +kernel
theorem dX5_init_95 : decode cX5_init 95 = .ok (.aload_n 0, 1) := by decide +kernel
theorem dX5_init_96 : decode cX5_init 96 = .ok (.getfield 32, 3) := by decide +kernel
theorem dX5_init_99 : decode cX5_init 99 = .ok (.iload_n 1, 1) := by decide +kernel
theorem dX5_init_100 : decode cX5_init 100 = .ok (.new 30, 3) := by decide +kernel
theorem dX5_init_103 : decode cX5_init 103 = .ok (.dup, 1) := by decide +kernel
theorem dX5_init_104 : decode cX5_init 104 = .ok (.invokespecial 46, 3) := by decide +kernel
theorem dX5_init_107 : decode cX5_init 107 = .ok (.aastore, 1) := by decide +kernel
theorem dX5_init_108 : decode cX5_init 108 = .ok (.iinc 1 1, 3) := by decide +kernel
theorem dX5_init_111 : decode cX5_init 111 = .ok (.goto (-22), 3) := by decide +kernel
theorem dX5_init_114 : decode cX5_init 114 = .ok (.return_, 1) := by decide +kernel
theorem dX5_become_0 : decode cX5_become 0 = .ok (.aload_n 0, 1) := by decide +kernel
theorem dX5_become_1 : decode cX5_become 1 = .ok (.aload_n 1, 1) := by decide +kernel
theorem dX5_become_2 : decode cX5_become 2 = .ok (.getfield 9, 3) := by decide +kernel
theorem dX5_become_5 : decode cX5_become 5 = .ok (.putfield 9, 3) := by decide +kernel
theorem dX5_become_8 : decode cX5_become 8 = .ok (.aload_n 0, 1) := by decide +kernel
theorem dX5_become_9 : decode cX5_become 9 = .ok (.aload_n 1, 1) := by decide +kernel
theorem dX5_become_10 : decode cX5_become 10 = .ok (.getfield 15, 3) := by decide +kernel
theorem dX5_become_13 : decode cX5_become 13 = .ok (.putfield 15, 3) := by decide +kernel
theorem dX5_become_16 : decode cX5_become 16 = .ok (.aload_n 0, 1) := by decide +kernel
theorem dX5_become_17 : decode cX5_become 17 = .ok (.aload_n 1, 1) := by decide +kernel
theorem dX5_become_18 : decode cX5_become 18 = .ok (.getfield 18, 3) := by decide +kernel
theorem dX5_become_21 : decode cX5_become 21 = .ok (.putfield 18, 3) := by decide +kernel
theorem dX5_become_24 : decode cX5_become 24 = .ok (.aload_n 0, 1) := by decide +kernel
theorem dX5_become_25 : decode cX5_become 25 = .ok (.aload_n 1, 1) := by decide +kernel
theorem dX5_become_26 : decode cX5_become 26 = .ok (.getfield 22, 3) := by decide +kernel
theorem dX5_become_29 : decode cX5_become 29 = .ok (.putfield 22, 3) := by decide +kernel
theorem dX5_become_32 : decode cX5_become 32 = .ok (.aload_n 1, 1) := by decide +kernel
theorem dX5_become_33 : decode cX5_become 33 = .ok (.getfield 26, 3) := by decide +kernel
theorem dX5_become_36 : decode cX5_become 36 = .ok (.iconst 0, 1) := by decide +kernel
theorem dX5_become_37 : decode cX5_become 37 = .ok (.aload_n 0, 1) := by decide +kernel
theorem dX5_become_38 : decode cX5_become 38 = .ok (.getfield 26, 3) := by decide +kernel
theorem dX5_become_41 : decode cX5_become 41 = .ok (.iconst 0, 1) := by decide +kernel
theorem dX5_become_42 : decode cX5_become 42 = .ok (.aload_n 0, 1) := by decide +kernel
theorem dX5_become_43 : decode cX5_become 43 = .ok (.getfield 26, 3) := by decide +kernel
theorem dX5_become_46 : decode cX5_become 46 = .ok (.arraylength, 1) := by decide +kernel
theorem dX5_become_47 : decode cX5_become 47 = .ok (.invokestatic 47, 3) := by decide +kernel
theorem dX5_become_50 : decode cX5_become 50 = .ok (.aload_n 0, 1) := by decide +kernel
theorem dX5_become_51 : decode cX5_become 51 = .ok (.aload_n 1, 1) := by decide +kernel
theorem dX5_become_52 : decode cX5_become 52 = .ok (.getfield 36, 3) := by decide +kernel
theorem dX5_become_55 : decode cX5_become 55 = .ok (.putfield 36, 3) := by decide +kernel
theorem dX5_become_58 : decode cX5_become 58 = .ok (.iconst 0, 1) := by decide +kernel
theorem dX5_become_59 : decode cX5_become 59 = .ok (.istore_n 2, 1) := by decide +kernel
theorem dX5_become_60 : decode cX5_become 60 = .ok (.iload_n 2, 1) := by decide +kernel
theorem dX5_become_61 : decode cX5_become 61 = .ok (.aload_n 0, 1) := by decide +kernel
theorem dX5_become_62 : decode cX5_become 62 = .ok (.getfield 36, 3) := by decide +kernel
theorem dX5_become_65 : decode cX5_become 65 = .ok (.if_icmp .ge 24, 3) := by decide +kernel
theorem dX5_become_68 : decode cX5_become 68 = .ok (.aload_n 0, 1) := by decide +kernel
theorem dX5_become_69 : decode cX5_become 69 = .ok (.getfield 32, 3) := by decide +kernel
theorem dX5_become_72 : decode cX5_become 72 = .ok (.iload_n 2, 1) := by decide +kernel
theorem dX5_become_73 : decode cX5_become 73 = .ok (.aaload, 1) := by decide +kernel
theorem dX5_become_74 : decode cX5_become 74 = .ok (.aload_n 1, 1) := by decide +kernel
theorem dX5_become_75 : decode cX5_become 75 = .ok (.getfield 32, 3) := by decide +kernel
theorem dX5_become_78 : decode cX5_become 78 = .ok (.iload_n 2, 1) := by decide +kernel
theorem dX5_become_79 : decode cX5_become 79 = .ok (.aaload, 1) := by decide +kernel
theorem dX5_become_80 : decode cX5_become 80 = .ok (.invokevirtual 53, 3) := by decide +kernel
theorem dX5_become_83 : decode cX5_become 83 = .ok (.iinc 2 1, 3) := by decide +kernel
theorem dX5_become_86 : decode cX5_become 86 = .ok (.goto (-26), 3) := by decide +kernel
theorem dX5_become_89 : decode cX5_become 89 = .ok (.aload_n 0, 1) := by decide +kernel
theorem dX5_become_90 : decode cX5_become 90 = .ok (.aload_n 1, 1) := by decide +kernel
theorem dX5_become_91 : decode cX5_become 91 = .ok (.getfield 43, 3) := by decide +kernel
theorem dX5_become_94 : decode cX5_become 94 = .ok (.putfield 43, 3) := by decide +kernel
theorem dX5_become_97 : decode cX5_become 97 = .ok (.aload_n 1, 1) := by decide +kernel
theorem dX5_become_98 : decode cX5_become 98 = .ok (.getfield 39, 3) := by decide +kernel
theorem dX5_become_101 : decode cX5_become 101 = .ok (.iconst 0, 1) := by decide +kernel
theorem dX5_become_102 : decode cX5_become 102 = .ok (.aload_n 0, 1) := by decide +kernel
theorem dX5_become_103 : decode cX5_become 103 = .ok (.getfield 39, 3) := by decide +kernel
theorem dX5_become_106 : decode cX5_become 106 = .ok (.iconst 0, 1) := by decide +kernel
theorem dX5_become_107 : decode cX5_become 107 = .ok (.aload_n 0, 1) := by decide +kernel
theorem dX5_become_108 : decode cX5_become 108 = .ok (.getfield 43, 3) := by decide +kernel
theorem dX5_become_111 : decode cX5_become 111 = .ok (.invokestatic 47, 3) := by decide +kernel
theorem dX5_become_114 : decode cX5_become 114 = .ok (.return_, 1) := by decide +kernel
theorem dX5_hasRule_0 : decode cX5_hasRule 0 = .ok (.aload_n 0, 1) := by decide +kernel
theorem dX5_hasRule_1 : decode cX5_hasRule 1 = .ok (.getfield 43, 3) := by decide +kernel
theorem dX5_hasRule_4 : decode cX5_hasRule 4 = .ok (.ifCond .le 7, 3) := by decide +kernel
theorem dX5_hasRule_7 : decode cX5_hasRule 7 = .ok (.iconst 1, 1) := by decide +kernel
theorem dX5_hasRule_8 : decode cX5_hasRule 8 = .ok (.goto 4, 3) := by decide +kernel
theorem dX5_hasRule_11 : decode cX5_hasRule 11 = .ok (.iconst 0, 1) := by decide +kernel
theorem dX5_hasRule_12 : decode cX5_hasRule 12 = .ok (.ireturn, 1) := by decide +kernel
theorem dX5_isOpen_0 : decode cX5_isOpen 0 = .ok (.aload_n 1, 1) := by decide +kernel
theorem dX5_isOpen_1 : decode cX5_isOpen 1 = .ok (.getfield 57, 3) := by decide +kernel
theorem dX5_isOpen_4 : decode cX5_isOpen 4 = .ok (.aload_n 0, 1) := by decide +kernel
theorem dX5_isOpen_5 : decode cX5_isOpen 5 = .ok (.getfield 9, 3) := by decide +kernel
theorem dX5_isOpen_8 : decode cX5_isOpen 8 = .ok (.if_icmp .le 7, 3) := by decide +kernel
theorem dX5_isOpen_11 : decode cX5_isOpen 11 = .ok (.iconst 1, 1) := by decide +kernel
theorem dX5_isOpen_12 : decode cX5_isOpen 12 = .ok (.goto 4, 3) := by decide +kernel
theorem dX5_isOpen_15 : decode cX5_isOpen 15 = .ok (.iconst 0, 1) := by decide +kernel
theorem dX5_isOpen_16 : decode cX5_isOpen 16 = .ok (.ireturn, 1) := by decide +kernel
theorem dX5_openOnes_0 : decode cX5_openOnes 0 = .ok (.iconst 0, 1) := by decide +kernel
theorem dX5_openOnes_1 : decode cX5_openOnes 1 = .ok (.istore_n 1, 1) := by decide +kernel
theorem dX5_openOnes_2 : decode cX5_openOnes 2 = .ok (.iconst 0, 1) := by decide +kernel
theorem dX5_openOnes_3 : decode cX5_openOnes 3 = .ok (.istore_n 2, 1) := by decide +kernel
theorem dX5_openOnes_4 : decode cX5_openOnes 4 = .ok (.iload_n 2, 1) := by decide +kernel
theorem dX5_openOnes_5 : decode cX5_openOnes 5 = .ok (.aload_n 0, 1) := by decide +kernel
theorem dX5_openOnes_6 : decode cX5_openOnes 6 = .ok (.getfield 36, 3) := by decide +kernel
theorem dX5_openOnes_9 : decode cX5_openOnes 9 = .ok (.if_icmp .ge 25, 3) := by decide +kernel
theorem dX5_openOnes_12 : decode cX5_openOnes 12 = .ok (.aload_n 0, 1) := by decide +kernel
theorem dX5_openOnes_13 : decode cX5_openOnes 13 = .ok (.aload_n 0, 1) := by decide +kernel
theorem dX5_openOnes_14 : decode cX5_openOnes 14 = .ok (.getfield 32, 3) := by decide +kernel
theorem dX5_openOnes_17 : decode cX5_openOnes 17 = .ok (.iload_n 2, 1) := by decide +kernel
theorem dX5_openOnes_18 : decode cX5_openOnes 18 = .ok (.aaload, 1) := by decide +kernel
theorem dX5_openOnes_19 : decode cX5_openOnes 19 = .ok (.invokevirtual 60, 3) := by decide +kernel
theorem dX5_openOnes_22 : decode cX5_openOnes 22 = .ok (.ifCond .eq 6, 3) := by decide +kernel
theorem dX5_openOnes_25 : decode cX5_openOnes 25 = .ok (.iinc 1 1, 3) := by decide +kernel
theorem dX5_openOnes_28 : decode cX5_openOnes 28 = .ok (.iinc 2 1, 3) := by decide +kernel
theorem dX5_openOnes_31 : decode cX5_openOnes 31 = .ok (.goto (-27), 3) := by decide +kernel
theorem dX5_openOnes_34 : decode cX5_openOnes 34 = .ok (.iload_n 1, 1) := by decide +kernel
theorem dX5_openOnes_35 : decode cX5_openOnes 35 = .ok (.ireturn, 1) := by decide +kernel
theorem dX5_allLooks_0 : decode cX5_allLooks 0 = .ok (.iconst 0, 1) := by decide +kernel
theorem dX5_allLooks_1 : decode cX5_allLooks 1 = .ok (.istore_n 1, 1) := by decide +kernel
theorem dX5_allLooks_2 : decode cX5_allLooks 2 = .ok (.iconst 0, 1) := by decide +kernel
theorem dX5_allLooks_3 : decode cX5_allLooks 3 = .ok (.istore_n 2, 1) := by decide +kernel
theorem dX5_allLooks_4 : decode cX5_allLooks 4 = .ok (.iload_n 2, 1) := by decide +kernel
theorem dX5_allLooks_5 : decode cX5_allLooks 5 = .ok (.aload_n 0, 1) := by decide +kernel
theorem dX5_allLooks_6 : decode cX5_allLooks 6 = .ok (.getfield 36, 3) := by decide +kernel
theorem dX5_allLooks_9 : decode cX5_allLooks 9 = .ok (.if_icmp .ge 21, 3) := by decide +kernel
theorem dX5_allLooks_12 : decode cX5_allLooks 12 = .ok (.iload_n 1, 1) := by decide +kernel
theorem dX5_allLooks_13 : decode cX5_allLooks 13 = .ok (.aload_n 0, 1) := by decide +kernel
theorem dX5_allLooks_14 : decode cX5_allLooks 14 = .ok (.getfield 32, 3) := by decide +kernel
theorem dX5_allLooks_17 : decode cX5_allLooks 17 = .ok (.iload_n 2, 1) := by decide +kernel
theorem dX5_allLooks_18 : decode cX5_allLooks 18 = .ok (.aaload, 1) := by decide +kernel
theorem dX5_allLooks_19 : decode cX5_allLooks 19 = .ok (.getfield 64, 3) := by decide +kernel
theorem dX5_allLooks_22 : decode cX5_allLooks 22 = .ok (.iadd, 1) := by decide +kernel
theorem dX5_allLooks_23 : decode cX5_allLooks 23 = .ok (.istore_n 1, 1) := by decide +kernel
theorem dX5_allLooks_24 : decode cX5_allLooks 24 = .ok (.iinc 2 1, 3) := by decide +kernel
theorem dX5_allLooks_27 : decode cX5_allLooks 27 = .ok (.goto (-23), 3) := by decide +kernel
theorem dX5_allLooks_30 : decode cX5_allLooks 30 = .ok (.iload_n 1, 1) := by decide +kernel
theorem dX5_allLooks_31 : decode cX5_allLooks 31 = .ok (.ireturn, 1) := by decide +kernel
theorem dX5_nextWarned_0 : decode cX5_nextWarned 0 = .ok (.iconst (-1), 1) := by decide +kernel
theorem dX5_nextWarned_1 : decode cX5_nextWarned 1 = .ok (.istore_n 1, 1) := by decide +kernel
theorem dX5_nextWarned_2 : decode cX5_nextWarned 2 = .ok (.iconst 0, 1) := by decide +kernel
theorem dX5_nextWarned_3 : decode cX5_nextWarned 3 = .ok (.istore_n 2, 1) := by decide +kernel
theorem dX5_nextWarned_4 : decode cX5_nextWarned 4 = .ok (.iload_n 2, 1) := by decide +kernel
theorem dX5_nextWarned_5 : decode cX5_nextWarned 5 = .ok (.aload_n 0, 1) := by decide +kernel
theorem dX5_nextWarned_6 : decode cX5_nextWarned 6 = .ok (.getfield 36, 3) := by decide +kernel
theorem dX5_nextWarned_9 : decode cX5_nextWarned 9 = .ok (.if_icmp .ge 38, 3) := by decide +kernel
theorem dX5_nextWarned_12 : decode cX5_nextWarned 12 = .ok (.aload_n 0, 1) := by decide +kernel
theorem dX5_nextWarned_13 : decode cX5_nextWarned 13 = .ok (.getfield 32, 3) := by decide +kernel
theorem dX5_nextWarned_16 : decode cX5_nextWarned 16 = .ok (.iload_n 2, 1) := by decide +kernel
theorem dX5_nextWarned_17 : decode cX5_nextWarned 17 = .ok (.aaload, 1) := by decide +kernel
theorem dX5_nextWarned_18 : decode cX5_nextWarned 18 = .ok (.getfield 57, 3) := by decide +kernel
theorem dX5_nextWarned_21 : decode cX5_nextWarned 21 = .ok (.istore_n 3, 1) := by decide +kernel
theorem dX5_nextWarned_22 : decode cX5_nextWarned 22 = .ok (.iload_n 3, 1) := by decide +kernel
theorem dX5_nextWarned_23 : decode cX5_nextWarned 23 = .ok (.aload_n 0, 1) := by decide +kernel
theorem dX5_nextWarned_24 : decode cX5_nextWarned 24 = .ok (.getfield 9, 3) := by decide +kernel
theorem dX5_nextWarned_27 : decode cX5_nextWarned 27 = .ok (.if_icmp .le 14, 3) := by decide +kernel
theorem dX5_nextWarned_30 : decode cX5_nextWarned 30 = .ok (.iload_n 1, 1) := by decide +kernel
theorem dX5_nextWarned_31 : decode cX5_nextWarned 31 = .ok (.ifCond .lt 8, 3) := by decide +kernel
theorem dX5_nextWarned_34 : decode cX5_nextWarned 34 = .ok (.iload_n 3, 1) := by decide +kernel
theorem dX5_nextWarned_35 : decode cX5_nextWarned 35 = .ok (.iload_n 1, 1) := by decide +kernel
theorem dX5_nextWarned_36 : decode cX5_nextWarned 36 = .ok (.if_icmp .ge 5, 3) := by decide +kernel
theorem dX5_nextWarned_39 : decode cX5_nextWarned 39 = .ok (.iload_n 3, 1) := by decide +kernel
theorem dX5_nextWarned_40 : decode cX5_nextWarned 40 = .ok (.istore_n 1, 1) := by decide +kernel
theorem dX5_nextWarned_41 : decode cX5_nextWarned 41 = .ok (.iinc 2 1, 3) := by decide +kernel
theorem dX5_nextWarned_44 : decode cX5_nextWarned 44 = .ok (.goto (-40), 3) := by decide +kernel
theorem dX5_nextWarned_47 : decode cX5_nextWarned 47 = .ok (.iload_n 1, 1) := by decide +kernel
theorem dX5_nextWarned_48 : decode cX5_nextWarned 48 = .ok (.ireturn, 1) := by decide +kernel
theorem dX5_dangerOn_0 : decode cX5_dangerOn 0 = .ok (.iconst 0, 1) := by decide +kernel
theorem dX5_dangerOn_1 : decode cX5_dangerOn 1 = .ok (.istore_n 3, 1) := by decide +kernel
theorem dX5_dangerOn_2 : decode cX5_dangerOn 2 = .ok (.iconst 0, 1) := by decide +kernel
theorem dX5_dangerOn_3 : decode cX5_dangerOn 3 = .ok (.istore 4, 2) := by decide +kernel
theorem dX5_dangerOn_5 : decode cX5_dangerOn 5 = .ok (.iload 4, 2) := by decide +kernel
theorem dX5_dangerOn_7 : decode cX5_dangerOn 7 = .ok (.aload_n 0, 1) := by decide +kernel
theorem dX5_dangerOn_8 : decode cX5_dangerOn 8 = .ok (.getfield 36, 3) := by decide +kernel
theorem dX5_dangerOn_11 : decode cX5_dangerOn 11 = .ok (.if_icmp .ge 37, 3) := by decide +kernel
theorem dX5_dangerOn_14 : decode cX5_dangerOn 14 = .ok (.aload_n 0, 1) := by decide +kernel
theorem dX5_dangerOn_15 : decode cX5_dangerOn 15 = .ok (.getfield 32, 3) := by decide +kernel
theorem dX5_dangerOn_18 : decode cX5_dangerOn 18 = .ok (.iload 4, 2) := by decide +kernel
theorem dX5_dangerOn_20 : decode cX5_dangerOn 20 = .ok (.aaload, 1) := by decide +kernel
theorem dX5_dangerOn_21 : decode cX5_dangerOn 21 = .ok (.getfield 57, 3) := by decide +kernel
theorem dX5_dangerOn_24 : decode cX5_dangerOn 24 = .ok (.iload_n 1, 1) := by decide +kernel
theorem dX5_dangerOn_25 : decode cX5_dangerOn 25 = .ok (.if_icmp .ne 17, 3) := by decide +kernel
theorem dX5_dangerOn_28 : decode cX5_dangerOn 28 = .ok (.iload_n 3, 1) := by decide +kernel
theorem dX5_dangerOn_29 : decode cX5_dangerOn 29 = .ok (.aload_n 0, 1) := by decide +kernel
theorem dX5_dangerOn_30 : decode cX5_dangerOn 30 = .ok (.getfield 32, 3) := by decide +kernel
theorem dX5_dangerOn_33 : decode cX5_dangerOn 33 = .ok (.iload 4, 2) := by decide +kernel
theorem dX5_dangerOn_35 : decode cX5_dangerOn 35 = .ok (.aaload, 1) := by decide +kernel
theorem dX5_dangerOn_36 : decode cX5_dangerOn 36 = .ok (.iload_n 2, 1) := by decide +kernel
theorem dX5_dangerOn_37 : decode cX5_dangerOn 37 = .ok (.invokevirtual 67, 3) := by decide +kernel
theorem dX5_dangerOn_40 : decode cX5_dangerOn 40 = .ok (.iadd, 1) := by decide +kernel
theorem dX5_dangerOn_41 : decode cX5_dangerOn 41 = .ok (.istore_n 3, 1) := by decide +kernel
theorem dX5_dangerOn_42 : decode cX5_dangerOn 42 = .ok (.iinc 4 1, 3) := by decide +kernel
theorem dX5_dangerOn_45 : decode cX5_dangerOn 45 = .ok (.goto (-40), 3) := by decide +kernel
theorem dX5_dangerOn_48 : decode cX5_dangerOn 48 = .ok (.iload_n 3, 1) := by decide +kernel
theorem dX5_dangerOn_49 : decode cX5_dangerOn 49 = .ok (.ldc 25, 2) := by decide +kernel
theorem dX5_dangerOn_51 : decode cX5_dangerOn 51 = .ok (.invokestatic 71, 3) := by decide +kernel
theorem dX5_dangerOn_54 : decode cX5_dangerOn 54 = .ok (.ireturn, 1) := by decide +kernel
theorem dX5_useAt_0 : decode cX5_useAt 0 = .ok (.aload_n 0, 1) := by decide +kernel
theorem dX5_useAt_1 : decode cX5_useAt 1 = .ok (.getfield 26, 3) := by decide +kernel
theorem dX5_useAt_4 : decode cX5_useAt 4 = .ok (.iconst 1, 1) := by decide +kernel
theorem dX5_useAt_5 : decode cX5_useAt 5 = .ok (.iaload, 1) := by decide +kernel
theorem dX5_useAt_6 : decode cX5_useAt 6 = .ok (.aload_n 0, 1) := by decide +kernel
theorem dX5_useAt_7 : decode cX5_useAt 7 = .ok (.getfield 26, 3) := by decide +kernel
theorem dX5_useAt_10 : decode cX5_useAt 10 = .ok (.iconst 2, 1) := by decide +kernel
theorem dX5_useAt_11 : decode cX5_useAt 11 = .ok (.iaload, 1) := by decide +kernel
theorem dX5_useAt_12 : decode cX5_useAt 12 = .ok (.iload_n 1, 1) := by decide +kernel
theorem dX5_useAt_13 : decode cX5_useAt 13 = .ok (.invokestatic 77, 3) := by decide +kernel
theorem dX5_useAt_16 : decode cX5_useAt 16 = .ok (.imul, 1) := by decide +kernel
theorem dX5_useAt_17 : decode cX5_useAt 17 = .ok (.isub, 1) := by decide +kernel
theorem dX5_useAt_18 : decode cX5_useAt 18 = .ok (.iconst 0, 1) := by decide +kernel
theorem dX5_useAt_19 : decode cX5_useAt 19 = .ok (.invokestatic 80, 3) := by decide +kernel
theorem dX5_useAt_22 : decode cX5_useAt 22 = .ok (.ireturn, 1) := by decide +kernel
theorem dX5_worthOf_0 : decode cX5_worthOf 0 = .ok (.aload_n 0, 1) := by decide +kernel
theorem dX5_worthOf_1 : decode cX5_worthOf 1 = .ok (.iload_n 2, 1) := by decide +kernel
theorem dX5_worthOf_2 : decode cX5_worthOf 2 = .ok (.invokevirtual 83, 3) := by decide +kernel
theorem dX5_worthOf_5 : decode cX5_worthOf 5 = .ok (.i2l, 1) := by decide +kernel
theorem dX5_worthOf_6 : decode cX5_worthOf 6 = .ok (.aload_n 0, 1) := by decide +kernel
theorem dX5_worthOf_7 : decode cX5_worthOf 7 = .ok (.getfield 26, 3) := by decide +kernel
theorem dX5_worthOf_10 : decode cX5_worthOf 10 = .ok (.iconst 3, 1) := by decide +kernel
theorem dX5_worthOf_11 : decode cX5_worthOf 11 = .ok (.iaload, 1) := by decide +kernel
theorem dX5_worthOf_12 : decode cX5_worthOf 12 = .ok (.i2l, 1) := by decide +kernel
theorem dX5_worthOf_13 : decode cX5_worthOf 13 = .ok (.aload_n 0, 1) := by decide +kernel
theorem dX5_worthOf_14 : decode cX5_worthOf 14 = .ok (.iload_n 1, 1) := by decide +kernel
theorem dX5_worthOf_15 : decode cX5_worthOf 15 = .ok (.iload_n 2, 1) := by decide +kernel
theorem dX5_worthOf_16 : decode cX5_worthOf 16 = .ok (.invokevirtual 86, 3) := by decide +kernel
theorem dX5_worthOf_19 : decode cX5_worthOf 19 = .ok (.i2l, 1) := by decide +kernel
theorem dX5_worthOf_20 : decode cX5_worthOf 20 = .ok (.lmul, 1) := by decide +kernel
theorem dX5_worthOf_21 : decode cX5_worthOf 21 = .ok (.ldc2_w 89, 3) := by decide +kernel
theorem dX5_worthOf_24 : decode cX5_worthOf 24 = .ok (.ldiv, 1) := by decide +kernel
theorem dX5_worthOf_25 : decode cX5_worthOf 25 = .ok (.lsub, 1) := by decide +kernel
theorem dX5_worthOf_26 : decode cX5_worthOf 26 = .ok (.lreturn, 1) := by decide +kernel
theorem dX5_canShift_0 : decode cX5_canShift 0 = .ok (.iload_n 1, 1) := by decide +kernel
theorem dX5_canShift_1 : decode cX5_canShift 1 = .ok (.ifCond .ne 5, 3) := by decide +kernel
theorem dX5_canShift_4 : decode cX5_canShift 4 = .ok (.iconst 1, 1) := by decide +kernel
theorem dX5_canShift_5 : decode cX5_canShift 5 = .ok (.ireturn, 1) := by decide +kernel
theorem dX5_canShift_6 : decode cX5_canShift 6 = .ok (.aload_n 0, 1) := by decide +kernel
theorem dX5_canShift_7 : decode cX5_canShift 7 = .ok (.getfield 26, 3) := by decide +kernel
theorem dX5_canShift_10 : decode cX5_canShift 10 = .ok (.iconst 5, 1) := by decide +kernel
theorem dX5_canShift_11 : decode cX5_canShift 11 = .ok (.iaload, 1) := by decide +kernel
theorem dX5_canShift_12 : decode cX5_canShift 12 = .ok (.aload_n 0, 1) := by decide +kernel
theorem dX5_canShift_13 : decode cX5_canShift 13 = .ok (.getfield 26, 3) := by decide +kernel
theorem dX5_canShift_16 : decode cX5_canShift 16 = .ok (.iconst 0, 1) := by decide +kernel
theorem dX5_canShift_17 : decode cX5_canShift 17 = .ok (.iaload, 1) := by decide +kernel
theorem dX5_canShift_18 : decode cX5_canShift 18 = .ok (.iload_n 1, 1) := by decide +kernel
theorem dX5_canShift_19 : decode cX5_canShift 19 = .ok (.invokestatic 77, 3) := by decide +kernel
theorem dX5_canShift_22 : decode cX5_canShift 22 = .ok (.imul, 1) := by decide +kernel
theorem dX5_canShift_23 : decode cX5_canShift 23 = .ok (.isub, 1) := by decide +kernel
theorem dX5_canShift_24 : decode cX5_canShift 24 = .ok (.istore_n 2, 1) := by decide +kernel
theorem dX5_canShift_25 : decode cX5_canShift 25 = .ok (.aload_n 0, 1) := by decide +kernel
theorem dX5_canShift_26 : decode cX5_canShift 26 = .ok (.getfield 15, 3) := by decide +kernel
theorem dX5_canShift_29 : decode cX5_canShift 29 = .ok (.iload_n 1, 1) := by decide +kernel
theorem dX5_canShift_30 : decode cX5_canShift 30 = .ok (.iadd, 1) := by decide +kernel
theorem dX5_canShift_31 : decode cX5_canShift 31 = .ok (.invokestatic 77, 3) := by decide +kernel
theorem dX5_canShift_34 : decode cX5_canShift 34 = .ok (.bipush 12, 2) := by decide +kernel
theorem dX5_canShift_36 : decode cX5_canShift 36 = .ok (.if_icmp .gt 17, 3) := by decide +kernel
theorem dX5_canShift_39 : decode cX5_canShift 39 = .ok (.iload_n 2, 1) := by decide +kernel
theorem dX5_canShift_40 : decode cX5_canShift 40 = .ok (.aload_n 0, 1) := by decide +kernel
theorem dX5_canShift_41 : decode cX5_canShift 41 = .ok (.getfield 26, 3) := by decide +kernel
theorem dX5_canShift_44 : decode cX5_canShift 44 = .ok (.iconst 4, 1) := by decide +kernel
theorem dX5_canShift_45 : decode cX5_canShift 45 = .ok (.iaload, 1) := by decide +kernel
theorem dX5_canShift_46 : decode cX5_canShift 46 = .ok (.if_icmp .lt 7, 3) := by decide +kernel
theorem dX5_canShift_49 : decode cX5_canShift 49 = .ok (.iconst 1, 1) := by decide +kernel
theorem dX5_canShift_50 : decode cX5_canShift 50 = .ok (.goto 4, 3) := by decide +kernel
theorem dX5_canShift_53 : decode cX5_canShift 53 = .ok (.iconst 0, 1) := by decide +kernel
theorem dX5_canShift_54 : decode cX5_canShift 54 = .ok (.ireturn, 1) := by decide +kernel
theorem dX5_shift_0 : decode cX5_shift 0 = .ok (.aload_n 0, 1) := by decide +kernel
theorem dX5_shift_1 : decode cX5_shift 1 = .ok (.dup, 1) := by decide +kernel
theorem dX5_shift_2 : decode cX5_shift 2 = .ok (.getfield 15, 3) := by decide +kernel
theorem dX5_shift_5 : decode cX5_shift 5 = .ok (.iload_n 1, 1) := by decide +kernel
theorem dX5_shift_6 : decode cX5_shift 6 = .ok (.iadd, 1) := by decide +kernel
theorem dX5_shift_7 : decode cX5_shift 7 = .ok (.putfield 15, 3) := by decide +kernel
theorem dX5_shift_10 : decode cX5_shift 10 = .ok (.aload_n 0, 1) := by decide +kernel
theorem dX5_shift_11 : decode cX5_shift 11 = .ok (.getfield 26, 3) := by decide +kernel
theorem dX5_shift_14 : decode cX5_shift 14 = .ok (.iconst 5, 1) := by decide +kernel
theorem dX5_shift_15 : decode cX5_shift 15 = .ok (.dup2, 1) := by decide +kernel
theorem dX5_shift_16 : decode cX5_shift 16 = .ok (.iaload, 1) := by decide +kernel
theorem dX5_shift_17 : decode cX5_shift 17 = .ok (.aload_n 0, 1) := by decide +kernel
theorem dX5_shift_18 : decode cX5_shift 18 = .ok (.getfield 26, 3) := by decide +kernel
theorem dX5_shift_21 : decode cX5_shift 21 = .ok (.iconst 0, 1) := by decide +kernel
theorem dX5_shift_22 : decode cX5_shift 22 = .ok (.iaload, 1) := by decide +kernel
theorem dX5_shift_23 : decode cX5_shift 23 = .ok (.iload_n 1, 1) := by decide +kernel
theorem dX5_shift_24 : decode cX5_shift 24 = .ok (.invokestatic 77, 3) := by decide +kernel
theorem dX5_shift_27 : decode cX5_shift 27 = .ok (.imul, 1) := by decide +kernel
theorem dX5_shift_28 : decode cX5_shift 28 = .ok (.isub, 1) := by decide +kernel
theorem dX5_shift_29 : decode cX5_shift 29 = .ok (.iastore, 1) := by decide +kernel
theorem dX5_shift_30 : decode cX5_shift 30 = .ok (.return_, 1) := by decide +kernel
theorem dX5_stepsLeft_0 : decode cX5_stepsLeft 0 = .ok (.aload_n 0, 1) := by decide +kernel
theorem dX5_stepsLeft_1 : decode cX5_stepsLeft 1 = .ok (.getfield 26, 3) := by decide +kernel
theorem dX5_stepsLeft_4 : decode cX5_stepsLeft 4 = .ok (.iconst 5, 1) := by decide +kernel
theorem dX5_stepsLeft_5 : decode cX5_stepsLeft 5 = .ok (.iaload, 1) := by decide +kernel
theorem dX5_stepsLeft_6 : decode cX5_stepsLeft 6 = .ok (.aload_n 0, 1) := by decide +kernel
theorem dX5_stepsLeft_7 : decode cX5_stepsLeft 7 = .ok (.getfield 26, 3) := by decide +kernel
theorem dX5_stepsLeft_10 : decode cX5_stepsLeft 10 = .ok (.iconst 4, 1) := by decide +kernel
theorem dX5_stepsLeft_11 : decode cX5_stepsLeft 11 = .ok (.iaload, 1) := by decide +kernel
theorem dX5_stepsLeft_12 : decode cX5_stepsLeft 12 = .ok (.isub, 1) := by decide +kernel
theorem dX5_stepsLeft_13 : decode cX5_stepsLeft 13 = .ok (.istore_n 1, 1) := by decide +kernel
theorem dX5_stepsLeft_14 : decode cX5_stepsLeft 14 = .ok (.aload_n 0, 1) := by decide +kernel
theorem dX5_stepsLeft_15 : decode cX5_stepsLeft 15 = .ok (.getfield 26, 3) := by decide +kernel
theorem dX5_stepsLeft_18 : decode cX5_stepsLeft 18 = .ok (.iconst 0, 1) := by decide +kernel
theorem dX5_stepsLeft_19 : decode cX5_stepsLeft 19 = .ok (.iaload, 1) := by decide +kernel
theorem dX5_stepsLeft_20 : decode cX5_stepsLeft 20 = .ok (.iconst 1, 1) := by decide +kernel
theorem dX5_stepsLeft_21 : decode cX5_stepsLeft 21 = .ok (.if_icmp .lt 7, 3) := by decide +kernel
theorem dX5_stepsLeft_24 : decode cX5_stepsLeft 24 = .ok (.iload_n 1, 1) := by decide +kernel
theorem dX5_stepsLeft_25 : decode cX5_stepsLeft 25 = .ok (.ifCond .ge 7, 3) := by decide +kernel
theorem dX5_stepsLeft_28 : decode cX5_stepsLeft 28 = .ok (.iconst 0, 1) := by decide +kernel
theorem dX5_stepsLeft_29 : decode cX5_stepsLeft 29 = .ok (.goto 11, 3) := by decide +kernel
theorem dX5_stepsLeft_32 : decode cX5_stepsLeft 32 = .ok (.iload_n 1, 1) := by decide +kernel
theorem dX5_stepsLeft_33 : decode cX5_stepsLeft 33 = .ok (.aload_n 0, 1) := by decide +kernel
theorem dX5_stepsLeft_34 : decode cX5_stepsLeft 34 = .ok (.getfield 26, 3) := by decide +kernel
theorem dX5_stepsLeft_37 : decode cX5_stepsLeft 37 = .ok (.iconst 0, 1) := by decide +kernel
theorem dX5_stepsLeft_38 : decode cX5_stepsLeft 38 = .ok (.iaload, 1) := by decide +kernel
theorem dX5_stepsLeft_39 : decode cX5_stepsLeft 39 = .ok (.idiv, 1) := by decide +kernel
theorem dX5_stepsLeft_40 : decode cX5_stepsLeft 40 = .ok (.ireturn, 1) := by decide +kernel
theorem dX5_endDay_0 : decode cX5_endDay 0 = .ok (.aload_n 0, 1) := by decide +kernel
theorem dX5_endDay_1 : decode cX5_endDay 1 = .ok (.dup, 1) := by decide +kernel
theorem dX5_endDay_2 : decode cX5_endDay 2 = .ok (.getfield 9, 3) := by decide +kernel
theorem dX5_endDay_5 : decode cX5_endDay 5 = .ok (.iconst 1, 1) := by decide +kernel
theorem dX5_endDay_6 : decode cX5_endDay 6 = .ok (.iadd, 1) := by decide +kernel
theorem dX5_endDay_7 : decode cX5_endDay 7 = .ok (.putfield 9, 3) := by decide +kernel
theorem dX5_endDay_10 : decode cX5_endDay 10 = .ok (.aload_n 0, 1) := by decide +kernel
theorem dX5_endDay_11 : decode cX5_endDay 11 = .ok (.dup, 1) := by decide +kernel
theorem dX5_endDay_12 : decode cX5_endDay 12 = .ok (.getfield 18, 3) := by decide +kernel
theorem dX5_endDay_15 : decode cX5_endDay 15 = .ok (.aload_n 0, 1) := by decide +kernel
theorem dX5_endDay_16 : decode cX5_endDay 16 = .ok (.aload_n 0, 1) := by decide +kernel
theorem dX5_endDay_17 : decode cX5_endDay 17 = .ok (.getfield 15, 3) := by decide +kernel
theorem dX5_endDay_20 : decode cX5_endDay 20 = .ok (.invokevirtual 83, 3) := by decide +kernel
theorem dX5_endDay_23 : decode cX5_endDay 23 = .ok (.i2l, 1) := by decide +kernel
theorem dX5_endDay_24 : decode cX5_endDay 24 = .ok (.ladd, 1) := by decide +kernel
theorem dX5_endDay_25 : decode cX5_endDay 25 = .ok (.putfield 18, 3) := by decide +kernel
theorem dX5_endDay_28 : decode cX5_endDay 28 = .ok (.aload_n 0, 1) := by decide +kernel
theorem dX5_endDay_29 : decode cX5_endDay 29 = .ok (.dup, 1) := by decide +kernel
theorem dX5_endDay_30 : decode cX5_endDay 30 = .ok (.getfield 22, 3) := by decide +kernel
theorem dX5_endDay_33 : decode cX5_endDay 33 = .ok (.aload_n 0, 1) := by decide +kernel
theorem dX5_endDay_34 : decode cX5_endDay 34 = .ok (.aload_n 0, 1) := by decide +kernel
theorem dX5_endDay_35 : decode cX5_endDay 35 = .ok (.getfield 9, 3) := by decide +kernel
theorem dX5_endDay_38 : decode cX5_endDay 38 = .ok (.aload_n 0, 1) := by decide +kernel
theorem dX5_endDay_39 : decode cX5_endDay 39 = .ok (.getfield 15, 3) := by decide +kernel
theorem dX5_endDay_42 : decode cX5_endDay 42 = .ok (.invokevirtual 86, 3) := by decide +kernel
theorem dX5_endDay_45 : decode cX5_endDay 45 = .ok (.i2l, 1) := by decide +kernel
theorem dX5_endDay_46 : decode cX5_endDay 46 = .ok (.ladd, 1) := by decide +kernel
theorem dX5_endDay_47 : decode cX5_endDay 47 = .ok (.putfield 22, 3) := by decide +kernel
theorem dX5_endDay_50 : decode cX5_endDay 50 = .ok (.return_, 1) := by decide +kernel
theorem dX5_moveBy_0 : decode cX5_moveBy 0 = .ok (.bipush (-24), 2) := by decide +kernel
theorem dX5_moveBy_2 : decode cX5_moveBy 2 = .ok (.bipush 24, 2) := by decide +kernel
theorem dX5_moveBy_4 : decode cX5_moveBy 4 = .ok (.aload_n 1, 1) := by decide +kernel
theorem dX5_moveBy_5 : decode cX5_moveBy 5 = .ok (.aload_n 0, 1) := by decide +kernel
theorem dX5_moveBy_6 : decode cX5_moveBy 6 = .ok (.invokevirtual 91, 3) := by decide +kernel
theorem dX5_moveBy_9 : decode cX5_moveBy 9 = .ok (.invokestatic 71, 3) := by decide +kernel
theorem dX5_moveBy_12 : decode cX5_moveBy 12 = .ok (.invokestatic 80, 3) := by decide +kernel
theorem dX5_moveBy_15 : decode cX5_moveBy 15 = .ok (.istore_n 2, 1) := by decide +kernel
theorem dX5_moveBy_16 : decode cX5_moveBy 16 = .ok (.iload_n 2, 1) := by decide +kernel
theorem dX5_moveBy_17 : decode cX5_moveBy 17 = .ok (.ifCond .ge 7, 3) := by decide +kernel
theorem dX5_moveBy_20 : decode cX5_moveBy 20 = .ok (.iconst (-1), 1) := by decide +kernel
theorem dX5_moveBy_21 : decode cX5_moveBy 21 = .ok (.goto 4, 3) := by decide +kernel
theorem dX5_moveBy_24 : decode cX5_moveBy 24 = .ok (.iconst 1, 1) := by decide +kernel
theorem dX5_moveBy_25 : decode cX5_moveBy 25 = .ok (.istore_n 3, 1) := by decide +kernel
theorem dX5_moveBy_26 : decode cX5_moveBy 26 = .ok (.iload_n 2, 1) := by decide +kernel
theorem dX5_moveBy_27 : decode cX5_moveBy 27 = .ok (.iload_n 3, 1) := by decide +kernel
theorem dX5_moveBy_28 : decode cX5_moveBy 28 = .ok (.imul, 1) := by decide +kernel
theorem dX5_moveBy_29 : decode cX5_moveBy 29 = .ok (.istore 4, 2) := by decide +kernel
theorem dX5_moveBy_31 : decode cX5_moveBy 31 = .ok (.iload 4, 2) := by decide +kernel
theorem dX5_moveBy_33 : decode cX5_moveBy 33 = .ok (.ifCond .le 20, 3) := by decide +kernel
theorem dX5_moveBy_36 : decode cX5_moveBy 36 = .ok (.aload_n 0, 1) := by decide +kernel
theorem dX5_moveBy_37 : decode cX5_moveBy 37 = .ok (.iload_n 3, 1) := by decide +kernel
theorem dX5_moveBy_38 : decode cX5_moveBy 38 = .ok (.iload 4, 2) := by decide +kernel
theorem dX5_moveBy_40 : decode cX5_moveBy 40 = .ok (.imul, 1) := by decide +kernel
theorem dX5_moveBy_41 : decode cX5_moveBy 41 = .ok (.invokevirtual 97, 3) := by decide +kernel
theorem dX5_moveBy_44 : decode cX5_moveBy 44 = .ok (.ifCond .ne 9, 3) := by decide +kernel
theorem dX5_moveBy_47 : decode cX5_moveBy 47 = .ok (.iinc 4 (-1), 3) := by decide +kernel
theorem dX5_moveBy_50 : decode cX5_moveBy 50 = .ok (.goto (-19), 3) := by decide +kernel
theorem dX5_moveBy_53 : decode cX5_moveBy 53 = .ok (.iload_n 3, 1) := by decide +kernel
theorem dX5_moveBy_54 : decode cX5_moveBy 54 = .ok (.iload 4, 2) := by decide +kernel
theorem dX5_moveBy_56 : decode cX5_moveBy 56 = .ok (.imul, 1) := by decide +kernel
theorem dX5_moveBy_57 : decode cX5_moveBy 57 = .ok (.ireturn, 1) := by decide +kernel
theorem dJ9_abs_0f7a4_0 : decode cJ9_abs_0f7a4 0 = .ok (.iload_n 0, 1) := by decide +kernel
theorem dJ9_abs_0f7a4_1 : decode cJ9_abs_0f7a4 1 = .ok (.ifCond .ge 8, 3) := by decide +kernel
theorem dJ9_abs_0f7a4_4 : decode cJ9_abs_0f7a4 4 = .ok (.iload_n 0, 1) := by decide +kernel
theorem dJ9_abs_0f7a4_5 : decode cJ9_abs_0f7a4 5 = .ok (.ineg, 1) := by decide +kernel
theorem dJ9_abs_0f7a4_6 : decode cJ9_abs_0f7a4 6 = .ok (.goto 4, 3) := by decide +kernel
theorem dJ9_abs_0f7a4_9 : decode cJ9_abs_0f7a4 9 = .ok (.iload_n 0, 1) := by decide +kernel
theorem dJ9_abs_0f7a4_10 : decode cJ9_abs_0f7a4 10 = .ok (.ireturn, 1) := by decide +kernel
theorem dJ9_max_7cf53_0 : decode cJ9_max_7cf53 0 = .ok (.iload_n 0, 1) := by decide +kernel
theorem dJ9_max_7cf53_1 : decode cJ9_max_7cf53 1 = .ok (.iload_n 1, 1) := by decide +kernel
theorem dJ9_max_7cf53_2 : decode cJ9_max_7cf53 2 = .ok (.if_icmp .lt 7, 3) := by decide +kernel
theorem dJ9_max_7cf53_5 : decode cJ9_max_7cf53 5 = .ok (.iload_n 0, 1) := by decide +kernel
theorem dJ9_max_7cf53_6 : decode cJ9_max_7cf53 6 = .ok (.goto 4, 3) := by decide +kernel
theorem dJ9_max_7cf53_9 : decode cJ9_max_7cf53 9 = .ok (.iload_n 1, 1) := by decide +kernel
theorem dJ9_max_7cf53_10 : decode cJ9_max_7cf53 10 = .ok (.ireturn, 1) := by decide +kernel
theorem dJ9_max_f86c9_0 : decode cJ9_max_f86c9 0 = .ok (.lload_n 0, 1) := by decide +kernel
theorem dJ9_max_f86c9_1 : decode cJ9_max_f86c9 1 = .ok (.lload_n 2, 1) := by decide +kernel
theorem dJ9_max_f86c9_2 : decode cJ9_max_f86c9 2 = .ok (.lcmp, 1) := by decide +kernel
theorem dJ9_max_f86c9_3 : decode cJ9_max_f86c9 3 = .ok (.ifCond .lt 7, 3) := by decide +kernel
theorem dJ9_max_f86c9_6 : decode cJ9_max_f86c9 6 = .ok (.lload_n 0, 1) := by decide +kernel
theorem dJ9_max_f86c9_7 : decode cJ9_max_f86c9 7 = .ok (.goto 4, 3) := by decide +kernel
theorem dJ9_max_f86c9_10 : decode cJ9_max_f86c9 10 = .ok (.lload_n 2, 1) := by decide +kernel
theorem dJ9_max_f86c9_11 : decode cJ9_max_f86c9 11 = .ok (.lreturn, 1) := by decide +kernel
theorem dJ9_min_7cf53_0 : decode cJ9_min_7cf53 0 = .ok (.iload_n 0, 1) := by decide +kernel
theorem dJ9_min_7cf53_1 : decode cJ9_min_7cf53 1 = .ok (.iload_n 1, 1) := by decide +kernel
theorem dJ9_min_7cf53_2 : decode cJ9_min_7cf53 2 = .ok (.if_icmp .gt 7, 3) := by decide +kernel
theorem dJ9_min_7cf53_5 : decode cJ9_min_7cf53 5 = .ok (.iload_n 0, 1) := by decide +kernel
theorem dJ9_min_7cf53_6 : decode cJ9_min_7cf53 6 = .ok (.goto 4, 3) := by decide +kernel
theorem dJ9_min_7cf53_9 : decode cJ9_min_7cf53 9 = .ok (.iload_n 1, 1) := by decide +kernel
theorem dJ9_min_7cf53_10 : decode cJ9_min_7cf53 10 = .ok (.ireturn, 1) := by decide +kernel
end
section
/-- the tables' words that no step can change -/
def zt : List Cond := lw_tbl.filter goodWord
theorem zt_of {w : Cond} (h : w ∈ lw_tbl) (hg : goodWord w = true) : w ∈ zt := List.mem_filter.mpr ⟨h, hg⟩
theorem zt_all {ws : List Cond} (h : ∀ w ∈ ws, w ∈ lw_tbl) (hg : ws.all goodWord = true) : ∀ w ∈ ws, w ∈ zt := fun w hw => zt_of (h w hw) (List.all_eq_true.mp hg w hw)
abbrev zV : Type := Int ⊕ (Int ⊕ Nat)
abbrev vI (x : Int) : zV := Sum.inl x
abbrev vJ (x : Int) : zV := Sum.inr (Sum.inl x)
abbrev vR (k : Nat) : zV := Sum.inr (Sum.inr k)
/-- memory: by cell and place -/
abbrev zM : Type := Nat → Int → Int
def zput (M : zM) (k : Nat) (j v : Int) : zM := fun a b => if a = k ∧ b = j then v else M a b
def zc (ad : Nat → Nat) (v : zV) : Value := match v with
  | .inl x => .int (Int32.ofInt x)
  | .inr (.inl x) => .long (Int64.ofInt x)
  | .inr (.inr k) => .ref (ad k)
/-- kinds of a class's fields: 0 an int, 1 a long, 2 a boolean, 3 a reference -/
def zfk (t : Nat) : List Nat := match t with
  | 0 => [3, 3, 0, 0, 3, 1, 0, 0]
  | 1 => [3, 0, 0, 2, 0, 0, 0, 0, 3, 3, 0, 0, 0, 2, 2, 0]
  | 2 => [0, 0, 3]
  | 3 => [3, 3, 3, 3, 3, 0, 0, 0, 0, 0, 0]
  | 4 => [0, 0, 0, 0, 0, 0]
  | 5 => [0, 0, 1, 1, 3, 3, 0, 3, 0]
  | 6 => [3, 3, 3, 2, 3, 0, 3, 3, 3, 3, 3, 3]
  | 7 => [3, 3, 2, 3, 3, 0, 0, 0, 0, 3, 3, 3, 3, 3, 3, 3, 2, 3, 3, 3, 3, 3, 3]
  | _ => []
def zTl : List Nat := [6, 5, 5, 5, 8, 11, 9, 1, 0, 3, 9, 9, 9, 9, 12, 12, 12, 8, 8, 8, 4, 4, 4, 4, 4, 4, 4, 4, 4, 4, 4, 4, 4, 4, 4, 4, 4, 4, 4, 4, 4, 4, 4, 4, 4, 4, 4, 4, 4, 4, 4, 4, 4, 4, 4, 4, 2, 2, 2, 2, 10, 10, 10, 10, 9, 9, 9, 10, 10, 9, 9, 9, 9, 9, 9, 7, 10, 10, 9, 9, 9, 9, 9, 10, 9, 9, 10, 9, 9, 10, 10, 9, 9]
def zNl : List Nat := [0, 0, 0, 0, 60, 4, 7, 0, 0, 0, 100, 6, 6, 6, 12, 12, 12, 60, 60, 60, 0, 0, 0, 0, 0, 0, 0, 0, 0, 0, 0, 0, 0, 0, 0, 0, 0, 0, 0, 0, 0, 0, 0, 0, 0, 0, 0, 0, 0, 0, 0, 0, 0, 0, 0, 0, 0, 0, 0, 0, 40, 40, 40, 40, 6, 5, 5, 200, 12200, 8, 12, 492, 41, 41, 12, 0, 214, 214, 7, 60, 130, 128, 70, 13725, 13725, 13725, 25, 4, 4, 160, 40, 492, 492]
def zRl : List (List Nat) := [[1, 2, 3, 0, 4, 0, 5, 6, 7, 8, 9, 10], [0, 0, 0, 0, 11, 14, 0, 17], [0, 0, 0, 0, 12, 15, 0, 18], [0, 0, 0, 0, 13, 16, 0, 19], [], [56, 57, 58, 59], [], [64, 0, 0, 0, 0, 0, 0, 0, 65, 66], [67, 68, 0, 0, 69], [70, 71, 72, 73, 74], [], [], [], [], [20, 21, 22, 23, 24, 25, 26, 27, 28, 29, 30, 31], [32, 33, 34, 35, 36, 37, 38, 39, 40, 41, 42, 43], [44, 45, 46, 47, 48, 49, 50, 51, 52, 53, 54, 55], [], [], [], [], [], [], [], [], [], [], [], [], [], [], [], [], [], [], [], [], [], [], [], [], [], [], [], [], [], [], [], [], [], [], [], [], [], [], [], [0, 0, 60], [0, 0, 61], [0, 0, 62], [0, 0, 63], [], [], [], [], [], [], [], [], [], [], [], [], [], [], [], [76, 77, 0, 78, 79, 0, 0, 0, 0, 80, 81, 82, 83, 84, 85, 86, 0, 87, 88, 89, 90, 91, 92], [], [], [], [], [], [], [], [], [], [], [], [], [], [], [], [], []]
def zT (k : Nat) : Nat := zTl.getD k 99
def zN (k : Nat) : Nat := zNl.getD k 0
def zR (k j : Nat) : Nat := (zRl.getD k []).getD j 0
def zfv (ad : Nat → Nat) (M : zM) (k j : Nat) : Value := match (zfk (zT k)).getD j 9 with
  | 1 => .long (Int64.ofInt (M k (j : Int)))
  | 3 => .ref (ad (zR k j))
  | _ => .int (Int32.ofInt (M k (j : Int)))
def zcell (ct ad : Nat → Nat) (M : zM) (k : Nat) : va_E :=
  if zT k = 8 then .inl (ct 0, zN k, .inl (fun j => Int32.ofInt (M k (j : Int))))
  else if zT k = 9 then .inl (ct 1, zN k, .inl (fun j => Int32.ofInt (M k (j : Int))))
  else if zT k = 10 then .inl (ct 2, zN k, .inr (.inl (fun j => Int64.ofInt (M k (j : Int)))))
  else if zT k = 11 then .inl (ct 3, zN k, .inr (.inr (.inr (.inr (fun j => some (ad (zR k j)))))))
  else if zT k = 12 then .inl (ct 4, zN k, .inr (.inr (.inr (.inr (fun j => some (ad (zR k j)))))))
  else .inr (zT k, (List.range (zfk (zT k)).length).map (zfv ad M k))
abbrev ztys (ct : Nat → Nat) : List (ClassId × FieldType) := [(ct 0, .byte), (ct 1, .int), (ct 2, .long), (ct 3, .object "FuelTurns$Sheet"), (ct 4, .object "FuelTurns$Warning")]
def zws (ct ad : Nat → Nat) (M : zM) : va_W := (List.range 93).map (fun k => (ad k, zcell ct ad M k))
def zsl : List (List Int) := [[1, 0, 0, 0, 0, 0], [9, 9999, 999, 99999999, 60, 60], [0, 0, 0, 0, 2, 1]]
def zs (k j : Nat) : Int := (zsl.getD k []).getD j 0
def zSt (ad : Nat → Nat) (A : Nat → Prop) (U : State) (H : Heap) : Prop :=
  (va_Z "FuelTurns" "PLAN_LEAST" "[I" (.ref (ad 93)) A U H ∧ va_T .int (ad 93) 6 (fun j => .int (Int32.ofInt (zs 0 j))) A U H) ∧ (va_Z "FuelTurns" "PLAN_MOST" "[I" (.ref (ad 94)) A U H ∧ va_T .int (ad 94) 6 (fun j => .int (Int32.ofInt (zs 1 j))) A U H) ∧ (va_Z "FuelTurns$Warning" "ABOVE" "[I" (.ref (ad 95)) A U H ∧ va_T .int (ad 95) 6 (fun j => .int (Int32.ofInt (zs 2 j))) A U H)
theorem zSt.moved {ad : Nat → Nat} {A : Nat → Prop} {u U : State} {H : Heap} (hvm : u.vm.Alike U.vm) (h : zSt ad A u H) : zSt ad A U H :=
  ⟨⟨h.1.1.moved hvm, h.1.2.moved hvm⟩, ⟨h.2.1.1.moved hvm, h.2.1.2.moved hvm⟩, ⟨h.2.2.1.moved hvm, h.2.2.2.moved hvm⟩⟩
theorem zSt.kept {ad : Nat → Nat} {A : Nat → Prop} {U : State} {H H1 : Heap} (h : zSt ad A U H) (hq : ∀ a : Nat, a < H.size → ¬ A a → H1[a]? = H[a]?) : zSt ad A U H1 :=
  ⟨⟨h.1.1.kept hq, h.1.2.kept hq⟩, ⟨h.2.1.1.kept hq, h.2.1.2.kept hq⟩, ⟨h.2.2.1.kept hq, h.2.2.2.kept hq⟩⟩
theorem zSt.narrow {ad : Nat → Nat} {A B : Nat → Prop} {U : State} {H : Heap} (h : zSt ad A U H) (hAB : ∀ q, B q → A q) : zSt ad B U H :=
  ⟨⟨h.1.1.narrow hAB, h.1.2.narrow hAB⟩, ⟨h.2.1.1.narrow hAB, h.2.1.2.narrow hAB⟩, ⟨h.2.2.1.narrow hAB, h.2.2.2.narrow hAB⟩⟩
theorem zput_ne {M : zM} {k : Nat} {j v : Int} {a : Nat} (h : a ≠ k) : zput M k j v a = M a := by
  funext b
  simp [zput, h]
theorem zput_eq {M : zM} {k : Nat} {j v : Int} : zput M k j v k j = v := by simp [zput]
theorem zput_ne2 {M : zM} {k : Nat} {j v : Int} {a : Nat} {b : Int} (h : b ≠ j) : zput M k j v a b = M a b := by simp [zput, h]
theorem zcell_congr {ct ad : Nat → Nat} {M M' : zM} {k : Nat} (h : M' k = M k) : zcell ct ad M' k = zcell ct ad M k := by
  unfold zcell zfv
  rw [h]
theorem zws_get {ct ad : Nat → Nat} {M : zM} {k : Nat} (hk : k < 93) : (zws ct ad M)[k]? = some (ad k, zcell ct ad M k) := by
  simp [zws, List.getElem?_map, List.getElem?_range hk]
theorem zws_set {ct ad : Nat → Nat} {M M' : zM} {k : Nat} (h : ∀ a, a ≠ k → M' a = M a) : (zws ct ad M).set k (ad k, zcell ct ad M' k) = zws ct ad M' := by
  apply List.ext_getElem?
  intro i
  rw [List.getElem?_set]
  by_cases hi : i < 93
  · by_cases hki : k = i
    · subst hki
      rw [if_pos rfl, if_pos (by simp [zws]; exact hi), zws_get hi]
    · rw [if_neg hki, zws_get hi, zws_get hi, zcell_congr (h i (fun e => hki e.symm))]
  · have e1 : ∀ N : zM, (zws ct ad N)[i]? = none := fun N => by
      rw [List.getElem?_eq_none_iff]
      simp [zws]
      omega
    rw [e1, e1]
    by_cases hki : k = i
    · rw [if_pos hki, if_neg (by simp [zws]; omega)]
    · rw [if_neg hki]
theorem zws_put {ct ad : Nat → Nat} {M : zM} {k : Nat} {j v : Int} {e : va_E} (he : zcell ct ad (zput M k j v) k = e) : (zws ct ad M).set k (ad k, e) = zws ct ad (zput M k j v) := by
  rw [← he]
  exact zws_set (fun a ha => zput_ne ha)
theorem zc_8 {ct ad : Nat → Nat} {M : zM} {k : Nat} (h : zT k = 8) : zcell ct ad M k = .inl (ct 0, zN k, .inl (fun j => Int32.ofInt (M k (j : Int)))) := by simp [zcell, h]
theorem zc_9 {ct ad : Nat → Nat} {M : zM} {k : Nat} (h : zT k = 9) : zcell ct ad M k = .inl (ct 1, zN k, .inl (fun j => Int32.ofInt (M k (j : Int)))) := by simp [zcell, h]
theorem zc_10 {ct ad : Nat → Nat} {M : zM} {k : Nat} (h : zT k = 10) : zcell ct ad M k = .inl (ct 2, zN k, .inr (.inl (fun j => Int64.ofInt (M k (j : Int))))) := by simp [zcell, h]
theorem zc_11 {ct ad : Nat → Nat} {M : zM} {k : Nat} (h : zT k = 11) : zcell ct ad M k = .inl (ct 3, zN k, .inr (.inr (.inr (.inr (fun j => some (ad (zR k j))))))) := by simp [zcell, h]
theorem zc_12 {ct ad : Nat → Nat} {M : zM} {k : Nat} (h : zT k = 12) : zcell ct ad M k = .inl (ct 4, zN k, .inr (.inr (.inr (.inr (fun j => some (ad (zR k j))))))) := by simp [zcell, h]
theorem zc_o {ct ad : Nat → Nat} {M : zM} {k t : Nat} (h : zT k = t) (ht : t < 8) : zcell ct ad M k = .inr (t, (List.range (zfk t).length).map (zfv ad M k)) := by
  subst h
  unfold zcell
  rw [if_neg (by omega), if_neg (by omega), if_neg (by omega), if_neg (by omega), if_neg (by omega)]
theorem zfs_get {ad : Nat → Nat} {M : zM} {k j n : Nat} (h : j < n) : ((List.range n).map (zfv ad M k))[j]? = some (zfv ad M k j) := by
  simp [List.getElem?_map, List.getElem?_range h]
theorem zfs_set {ad : Nat → Nat} {M : zM} {k j n : Nat} {v : Int} {w : Value} (hw : zfv ad (zput M k j v) k j = w) : ((List.range n).map (zfv ad M k)).set j w = (List.range n).map (zfv ad (zput M k j v) k) := by
  apply List.ext_getElem?
  intro i
  rw [List.getElem?_set]
  by_cases hi : i < n
  · by_cases hji : j = i
    · subst hji
      rw [if_pos rfl, if_pos (by simp; exact hi), zfs_get hi, hw]
    · have e : zfv ad (zput M k j v) k i = zfv ad M k i := by
        have h : zput M k (j : Int) v k (i : Int) = M k (i : Int) := zput_ne2 (by omega)
        unfold zfv
        rw [h]
      rw [if_neg hji, zfs_get hi, zfs_get hi, e]
  · have e1 : ∀ N : zM, ((List.range n).map (zfv ad N k))[i]? = none := fun N => by
      rw [List.getElem?_eq_none_iff]
      simp
      omega
    rw [e1, e1]
    by_cases hji : j = i
    · rw [if_pos hji, if_neg (by simp; omega)]
    · rw [if_neg hji]
/-! ===== the judgement ===== -/
abbrev zF : Type := Nat × Nat × (List Frame → Array Value → State → va_G → (Nat → Nat) → (Nat → Nat) → (Nat → Prop) → State → Prop) × ((Nat → Nat) → (Nat → Prop) → Array Value → State → Prop)
def zE (own : String) (cc : ByteArray) (mL : Nat) (rt : Option FieldType) (d : Nat) (F : zF) (p : Program) (R : Room) (s : State) (m : MethodId) (args : Array Value) (meth : Method) (c : Code) (D : va_G) (ct ad : Nat → Nat) (A : Nat → Prop) : Prop :=
  p.tables.exec = Jvm.exec ∧ c.code = cc ∧ c.maxLocals = mL ∧ s.vm.findClass own = some m.cls ∧ (∀ w ∈ zt, w.before args s = true) ∧ va_K D vwCl (ztys ct) s ∧ zSt ad A s s.heap ∧ (d ≤ R.frames ∧ 40 * d ≤ R.locals ∧ F.1 ≤ R.cells ∧ F.2.1 ≤ R.slots) ∧ (meth.locks = false ∧ meth.sig.returnType = rt) ∧ (∀ q : Nat, s.heap.size ≤ q → A q) ∧ F.2.2.2 ad A args s
def zlv (ad : Nat → Nat) : Nat → List (Option zV) → List (Nat × Value)
  | _, [] => []
  | i, none :: r => zlv ad (i + 1) r
  | i, some v :: r => (i, zc ad v) :: zlv ad (i + 1) r
def Z (own : String) (cc : ByteArray) (mL : Nat) (rt : Option FieldType) (d : Nat) (F : zF) (pc : Nat) (lv : List (Option zV)) (st : List zV) (M : zM) : Prop :=
  ∀ (p : Program) (l : Launch) (e : Env) (R : Room) (s : State) (m : MethodId) (args : Array Value) (below : List Frame) (meth : Method) (c : Code) (D : va_G) (ct ad : Nat → Nat) (A : Nat → Prop) (H : Heap) (locs : List Loc) (ls : Array Slot),
    zE own cc mL rt d F p R s m args meth c D ct ad A → lv_has ls mL (zlv ad 0 lv) → lv.length ≤ mL → va_P D vwCl (zws ct ad M) H → va_D A (zws ct ad M) → va_S A s.heap H locs →
    W p l e R s m args below meth c H locs F.1 F.2.1 (F.2.2.1 below args s D ct ad A) (F0 m pc ls (st.map (zc ad)))
theorem zlv_mem {ad : Nat → Nat} : ∀ (lv : List (Option zV)) (i n : Nat) (v : zV), lv[n]? = some (some v) → (i + n, zc ad v) ∈ zlv ad i lv
  | [], _, _, _, h => by simp at h
  | none :: r, i, 0, v, h => by simp at h
  | none :: r, i, n + 1, v, h => by
    have := zlv_mem (ad := ad) r (i + 1) n v (by simpa using h)
    rw [show i + (n + 1) = i + 1 + n by omega]
    exact this
  | some w :: r, i, 0, v, h => by
    have e : w = v := by simpa using h
    subst e
    exact List.mem_cons_self
  | some w :: r, i, n + 1, v, h => by
    have := zlv_mem (ad := ad) r (i + 1) n v (by simpa using h)
    rw [show i + (n + 1) = i + 1 + n by omega]
    exact List.mem_cons_of_mem _ this
theorem zlv_of {ad : Nat → Nat} : ∀ (lv : List (Option zV)) (i : Nat) (q : Nat × Value), q ∈ zlv ad i lv → ∃ n v, q = (i + n, zc ad v) ∧ lv[n]? = some (some v)
  | [], _, _, h => by cases h
  | none :: r, i, q, h => by
    obtain ⟨n, v, h1, h2⟩ := zlv_of r (i + 1) q h
    exact ⟨n + 1, v, by rw [h1, show i + (n + 1) = i + 1 + n by omega], by simpa using h2⟩
  | some w :: r, i, q, h => by
    rcases List.mem_cons.mp h with h | h
    · exact ⟨0, w, h, rfl⟩
    · obtain ⟨n, v, h1, h2⟩ := zlv_of r (i + 1) q h
      exact ⟨n + 1, v, by rw [h1, show i + (n + 1) = i + 1 + n by omega], by simpa using h2⟩
theorem zhas_sub {ls : Array Slot} {n : Nat} {l l' : List (Nat × Value)} (h : lv_has ls n l) (hs : ∀ q ∈ l', q ∈ l) : lv_has ls n l' := ⟨h.1, h.2.1, fun q hq => h.2.2 q (hs q hq)⟩
theorem zl_at {ad : Nat → Nat} {ls : Array Slot} {mL : Nat} {lv : List (Option zV)} (h : lv_has ls mL (zlv ad 0 lv)) {n : Nat} {v : zV} (hv : lv[n]? = some (some v)) : ls[n]? = some (.val (zc ad v)) := by
  have := h.2.2 _ (zlv_mem lv 0 n v hv)
  rwa [Nat.zero_add] at this
def zn2 : Option zV → Bool
  | some (.inr (.inl _)) => false
  | _ => true
/-- what a store into place i leaves -/
theorem zl_set {ad : Nat → Nat} {ls : Array Slot} {mL i : Nat} {lv : List (Option zV)} {v : zV} (hn : ∀ j, j + 1 = i → zn2 (lv.getD j none) = true) (h : lv_has ls mL ((i, zc ad v) :: (zlv ad 0 lv).filter (fun q => !(q.1 == i) && !(q.1 + 1 == i && q.2.category == 2)))) : lv_has ls mL (zlv ad 0 (lv.set i (some v))) := by
  refine zhas_sub h (fun q hq => ?_)
  obtain ⟨n, w, rfl, h2⟩ := zlv_of _ _ _ hq
  rw [Nat.zero_add]
  rw [List.getElem?_set] at h2
  by_cases hi : i = n
  · subst hi
    rw [if_pos rfl] at h2
    split at h2
    · cases h2
      exact List.mem_cons_self
    · cases h2
  · rw [if_neg hi] at h2
    refine List.mem_cons_of_mem _ (List.mem_filter.mpr ⟨?_, ?_⟩)
    · have := zlv_mem (ad := ad) lv 0 n w h2
      rwa [Nat.zero_add] at this
    · have hne : (n == i) = false := by simp; exact fun e => hi e.symm
      by_cases hm : n + 1 = i
      · have h3 := hn n hm
        rw [List.getD_eq_getElem?_getD, h2] at h3
        have h4 : (zc ad w).category = 1 := by
          rcases w with x | x | x
          · rfl
          · simp [zn2] at h3
          · rfl
        simp [hne, h4]
      · simp [hne, hm]
theorem zl_set2 {ad : Nat → Nat} {ls : Array Slot} {mL i : Nat} {lv : List (Option zV)} {v : zV} (hn : ∀ j, j + 1 = i → zn2 (lv.getD j none) = true) (h : lv_has ls mL ((i, zc ad v) :: (zlv ad 0 lv).filter (fun q => !(q.1 == i) && (!(q.1 == i + 1) && !(q.1 + 1 == i && q.2.category == 2))))) : lv_has ls mL (zlv ad 0 ((lv.set i (some v)).set (i + 1) none)) := by
  refine zhas_sub h (fun q hq => ?_)
  obtain ⟨n, w, rfl, h2⟩ := zlv_of _ _ _ hq
  rw [Nat.zero_add]
  rw [List.getElem?_set] at h2
  by_cases hi1 : i + 1 = n
  · rw [if_pos hi1] at h2
    split at h2 <;> cases h2
  rw [if_neg hi1, List.getElem?_set] at h2
  by_cases hi : i = n
  · subst hi
    rw [if_pos rfl] at h2
    split at h2
    · cases h2
      exact List.mem_cons_self
    · cases h2
  · rw [if_neg hi] at h2
    refine List.mem_cons_of_mem _ (List.mem_filter.mpr ⟨?_, ?_⟩)
    · have := zlv_mem (ad := ad) lv 0 n w h2
      rwa [Nat.zero_add] at this
    · have hne : (n == i) = false := by simp; exact fun e => hi e.symm
      have hne1 : (n == i + 1) = false := by simp; exact fun e => hi1 e.symm
      by_cases hm : n + 1 = i
      · have h3 := hn n hm
        rw [List.getD_eq_getElem?_getD, h2] at h3
        have h4 : (zc ad w).category = 1 := by
          rcases w with x | x | x
          · rfl
          · simp [zn2] at h3
          · rfl
        simp [hne, hne1, h4]
      · simp [hne, hne1, hm]
end
section
section
variable {own : String} {cc : ByteArray} {mL : Nat} {rt : Option FieldType} {d : Nat} {F : zF} {pc : Nat} {lv lv2 : List (Option zV)} {st : List zV} {M : zM}
theorem zmx8 : Int8.maxValue.toInt = 127 := by decide
theorem zmx16 : Int16.maxValue.toInt = 32767 := by decide
theorem zmx32 : Int32.maxValue.toInt = 2147483647 := by decide
theorem zmn32 : Int32.minValue.toInt = -2147483648 := by decide
theorem zmx64 : Int64.maxValue.toInt = 9223372036854775807 := by decide
theorem zmn64 : Int64.minValue.toInt = -9223372036854775808 := by decide
theorem zi_r {x : Int} (h : -2147483648 ≤ x ∧ x < 2147483648) : (Int32.ofInt x).toInt = x := Int32.toInt_ofInt_of_le h.1 h.2
theorem zl_r {x : Int} (h : -9223372036854775808 ≤ x ∧ x < 9223372036854775808) : (Int64.ofInt x).toInt = x := Int64.toInt_ofInt_of_le h.1 h.2
theorem zi_lt {x y : Int} (hx : -2147483648 ≤ x ∧ x < 2147483648) (hy : -2147483648 ≤ y ∧ y < 2147483648) : Int32.ofInt x < Int32.ofInt y ↔ x < y := by rw [Int32.lt_iff_toInt_lt, zi_r hx, zi_r hy]
theorem zi_le {x y : Int} (hx : -2147483648 ≤ x ∧ x < 2147483648) (hy : -2147483648 ≤ y ∧ y < 2147483648) : Int32.ofInt x ≤ Int32.ofInt y ↔ x ≤ y := by rw [Int32.le_iff_toInt_le, zi_r hx, zi_r hy]
theorem zi_eq {x y : Int} (hx : -2147483648 ≤ x ∧ x < 2147483648) (hy : -2147483648 ≤ y ∧ y < 2147483648) : Int32.ofInt x = Int32.ofInt y ↔ x = y := by rw [← Int32.toInt_inj, zi_r hx, zi_r hy]
theorem zl_lt {x y : Int} (hx : -9223372036854775808 ≤ x ∧ x < 9223372036854775808) (hy : -9223372036854775808 ≤ y ∧ y < 9223372036854775808) : Int64.ofInt x < Int64.ofInt y ↔ x < y := by rw [Int64.lt_iff_toInt_lt, zl_r hx, zl_r hy]
theorem zl_eq {x y : Int} (hx : -9223372036854775808 ≤ x ∧ x < 9223372036854775808) (hy : -9223372036854775808 ≤ y ∧ y < 9223372036854775808) : Int64.ofInt x = Int64.ofInt y ↔ x = y := by rw [← Int64.toInt_inj, zl_r hx, zl_r hy]
theorem zi_nat {x : Int} {n : Nat} (h : 0 ≤ x ∧ x < n) (hn : n < 2147483648) : (Int32.ofInt x).toNatClampNeg = x.toNat := Int32.toNatClampNeg_ofInt_of_le (by omega) (by omega)
theorem zi_in {x : Int} {n : Nat} (h : 0 ≤ x ∧ x < n) (hn : n < 2147483648) : vp_in (Int32.ofInt x) n := by
  rw [vp_in_iff, zi_r (by omega)]
  exact h
/-- a step that leaves the heap -/
theorem z_pure {pc2 : Nat} {st2 : List zV} (h : ∀ {p : Program} {l : Launch} {e : Env} {R : Room} {s : State} {m : MethodId} {args : Array Value} {below : List Frame} {meth : Method} {c : Code} {H : Heap} {locs : List Loc} {cells slots : Nat} {Q : State → Prop} {ls : Array Slot} (ad : Nat → Nat),
      p.tables.exec = Jvm.exec → c.code = cc → lv_has ls mL (zlv ad 0 lv) → lv.length ≤ mL → (∀ ls2 : Array Slot, lv_has ls2 mL (zlv ad 0 lv2) → W p l e R s m args below meth c H locs cells slots Q (F0 m pc2 ls2 (st2.map (zc ad)))) → W p l e R s m args below meth c H locs cells slots Q (F0 m pc ls (st.map (zc ad))))
    (hlen : lv2.length ≤ lv.length) (k : Z own cc mL rt d F pc2 lv2 st2 M) : Z own cc mL rt d F pc lv st M := by
  intro p l e R s m args below meth c D ct ad A H locs ls hE hl hn hP hD hS
  exact h ad hE.1 hE.2.1 hl hn (fun ls2 hl2 => k p l e R s m args below meth c D ct ad A H locs ls2 hE hl2 (Nat.le_trans hlen hn) hP hD hS)
theorem z_pure0 {pc2 : Nat} {st2 : List zV} (h : ∀ {p : Program} {l : Launch} {e : Env} {R : Room} {s : State} {m : MethodId} {args : Array Value} {below : List Frame} {meth : Method} {c : Code} {H : Heap} {locs : List Loc} {cells slots : Nat} {Q : State → Prop} {ls : Array Slot} (ad : Nat → Nat),
      p.tables.exec = Jvm.exec → c.code = cc → lv_has ls mL (zlv ad 0 lv) → W p l e R s m args below meth c H locs cells slots Q (F0 m pc2 ls (st2.map (zc ad))) → W p l e R s m args below meth c H locs cells slots Q (F0 m pc ls (st.map (zc ad))))
    (k : Z own cc mL rt d F pc2 lv st2 M) : Z own cc mL rt d F pc lv st M :=
  z_pure (fun ad hx hb hl _ kk => h ad hx hb hl (kk _ hl)) (Nat.le_refl _) k
theorem z_iconst {n : Int} (hd : decode cc pc = .ok (.iconst n, 1)) (k : Z own cc mL rt d F (pc + 1) lv (vI n :: st) M) : Z own cc mL rt d F pc lv st M :=
  z_pure0 (fun ad hx hb _ k => lv_iconst hx hb hd rfl k) k
theorem z_bipush {n : Int} (hd : decode cc pc = .ok (.bipush n, 2)) (hn : -128 ≤ n ∧ n < 128) (k : Z own cc mL rt d F (pc + 2) lv (vI n :: st) M) : Z own cc mL rt d F pc lv st M :=
  z_pure0 (fun ad hx hb _ k => lv_bipush hx hb hd (Int8.toInt32_ofInt hn.1 (by rw [zmx8]; omega)) k) k
theorem z_sipush {n : Int} (hd : decode cc pc = .ok (.sipush n, 3)) (hn : -32768 ≤ n ∧ n < 32768) (k : Z own cc mL rt d F (pc + 3) lv (vI n :: st) M) : Z own cc mL rt d F pc lv st M :=
  z_pure0 (fun ad hx hb _ k => lv_sipush hx hb hd (Int16.toInt32_ofInt hn.1 (by rw [zmx16]; omega)) k) k
theorem z_lconst0 (hd : decode cc pc = .ok (.lconst 0, 1)) (k : Z own cc mL rt d F (pc + 1) lv (vJ 0 :: st) M) : Z own cc mL rt d F pc lv st M :=
  z_pure0 (fun ad hx hb _ k => lv_lconst hx hb hd rfl k) k
theorem z_lconst1 (hd : decode cc pc = .ok (.lconst 1, 1)) (k : Z own cc mL rt d F (pc + 1) lv (vJ 1 :: st) M) : Z own cc mL rt d F pc lv st M :=
  z_pure0 (fun ad hx hb _ k => lv_lconst hx hb hd rfl k) k
theorem z_ldc {i : Nat} {n : Int} {v : Int32} (hw : Cond.constant own i v ∈ zt) (hv : Int32.ofInt n = v) (hd : decode cc pc = .ok (.ldc i, 2)) (k : Z own cc mL rt d F (pc + 2) lv (vI n :: st) M) : Z own cc mL rt d F pc lv st M := by
  intro p l e R s m args below meth c D ct ad A H locs ls hE hl hn hP hD hS
  subst hv
  exact lv_ldc hE.1 hE.2.1 hE.2.2.2.1 (hE.2.2.2.2.1 _ hw) hd (k p l e R s m args below meth c D ct ad A H locs ls hE hl hn hP hD hS)
theorem z_ldcw {i : Nat} {n : Int} {v : Int32} (hw : Cond.constant own i v ∈ zt) (hv : Int32.ofInt n = v) (hd : decode cc pc = .ok (.ldc_w i, 3)) (k : Z own cc mL rt d F (pc + 3) lv (vI n :: st) M) : Z own cc mL rt d F pc lv st M := by
  intro p l e R s m args below meth c D ct ad A H locs ls hE hl hn hP hD hS
  subst hv
  exact lv_ldcw hE.1 hE.2.1 hE.2.2.2.1 (hE.2.2.2.2.1 _ hw) hd (k p l e R s m args below meth c D ct ad A H locs ls hE hl hn hP hD hS)
theorem z_ldc2 {i : Nat} {n : Int} {v : Int64} (hw : Cond.constantLong own i v ∈ zt) (hv : Int64.ofInt n = v) (hd : decode cc pc = .ok (.ldc2_w i, 3)) (k : Z own cc mL rt d F (pc + 3) lv (vJ n :: st) M) : Z own cc mL rt d F pc lv st M := by
  intro p l e R s m args below meth c D ct ad A H locs ls hE hl hn hP hD hS
  subst hv
  exact lv_ldc2 hE.1 hE.2.1 hE.2.2.2.1 (hE.2.2.2.2.1 _ hw) hd (k p l e R s m args below meth c D ct ad A H locs ls hE hl hn hP hD hS)
theorem z_iadd {x y : Int} (hd : decode cc pc = .ok (.iadd, 1)) (k : Z own cc mL rt d F (pc + 1) lv (vI (x + y) :: st) M) : Z own cc mL rt d F pc lv (vI y :: vI x :: st) M :=
  z_pure0 (fun ad hx hb _ k => lv_iadd hx hb hd (by rw [← Int32.ofInt_add]; exact k)) k
theorem z_isub {x y : Int} (hd : decode cc pc = .ok (.isub, 1)) (k : Z own cc mL rt d F (pc + 1) lv (vI (x - y) :: st) M) : Z own cc mL rt d F pc lv (vI y :: vI x :: st) M :=
  z_pure0 (fun ad hx hb _ k => lv_isub hx hb hd (by rw [← Int32.ofInt_sub]; exact k)) k
theorem z_imul {x y : Int} (hd : decode cc pc = .ok (.imul, 1)) (k : Z own cc mL rt d F (pc + 1) lv (vI (x * y) :: st) M) : Z own cc mL rt d F pc lv (vI y :: vI x :: st) M :=
  z_pure0 (fun ad hx hb _ k => lv_imul hx hb hd (by rw [← Int32.ofInt_mul]; exact k)) k
theorem z_ladd {x y : Int} (hd : decode cc pc = .ok (.ladd, 1)) (k : Z own cc mL rt d F (pc + 1) lv (vJ (x + y) :: st) M) : Z own cc mL rt d F pc lv (vJ y :: vJ x :: st) M :=
  z_pure0 (fun ad hx hb _ k => lv_ladd hx hb hd (by rw [← Int64.ofInt_add]; exact k)) k
theorem z_lsub {x y : Int} (hd : decode cc pc = .ok (.lsub, 1)) (k : Z own cc mL rt d F (pc + 1) lv (vJ (x - y) :: st) M) : Z own cc mL rt d F pc lv (vJ y :: vJ x :: st) M :=
  z_pure0 (fun ad hx hb _ k => lv_lsub hx hb hd (by rw [← Int64.ofInt_sub]; exact k)) k
theorem z_lmul {x y : Int} (hd : decode cc pc = .ok (.lmul, 1)) (k : Z own cc mL rt d F (pc + 1) lv (vJ (x * y) :: st) M) : Z own cc mL rt d F pc lv (vJ y :: vJ x :: st) M :=
  z_pure0 (fun ad hx hb _ k => lv_lmul hx hb hd (by rw [← Int64.ofInt_mul]; exact k)) k
theorem z_ineg {x : Int} (hd : decode cc pc = .ok (.ineg, 1)) (k : Z own cc mL rt d F (pc + 1) lv (vI (-x) :: st) M) : Z own cc mL rt d F pc lv (vI x :: st) M :=
  z_pure0 (fun ad hx hb _ k => lv_ineg hx hb hd (by rw [← Int32.ofInt_neg]; exact k)) k
theorem z_lneg {x : Int} (hd : decode cc pc = .ok (.lneg, 1)) (k : Z own cc mL rt d F (pc + 1) lv (vJ (-x) :: st) M) : Z own cc mL rt d F pc lv (vJ x :: st) M :=
  z_pure0 (fun ad hx hb _ k => lv_lneg hx hb hd (by rw [← Int64.ofInt_neg]; exact k)) k
theorem z_l2i {x : Int} (hd : decode cc pc = .ok (.l2i, 1)) (k : Z own cc mL rt d F (pc + 1) lv (vI x :: st) M) : Z own cc mL rt d F pc lv (vJ x :: st) M :=
  z_pure0 (fun ad hx hb _ k => lv_l2i hx hb hd Int64.toInt32_ofInt k) k
theorem z_i2l {x : Int} (hx : -2147483648 ≤ x ∧ x < 2147483648) (hd : decode cc pc = .ok (.i2l, 1)) (k : Z own cc mL rt d F (pc + 1) lv (vJ x :: st) M) : Z own cc mL rt d F pc lv (vI x :: st) M :=
  z_pure0 (fun ad hx1 hb _ k => lv_i2l hx1 hb hd (Int32.toInt64_ofInt (by rw [zmn32]; omega) (by rw [zmx32]; omega)) k) k
theorem z_i2b {x : Int} (hd : decode cc pc = .ok (.i2b, 1)) (k : Z own cc mL rt d F (pc + 1) lv (vI (x.bmod 256) :: st) M) : Z own cc mL rt d F pc lv (vI x :: st) M :=
  z_pure0 (fun ad hx hb _ k => lv_i2b hx hb hd (by
    rw [← Int32.toInt_inj]
    have h1 := Int.le_bmod (x := x) (m := 256) (by decide)
    have h2 := Int.bmod_lt (x := x) (m := 256) (by decide)
    rw [zi_r (by omega)]
    simp) k) k
theorem z_i2s {x : Int} (hd : decode cc pc = .ok (.i2s, 1)) (k : Z own cc mL rt d F (pc + 1) lv (vI (x.bmod 65536) :: st) M) : Z own cc mL rt d F pc lv (vI x :: st) M :=
  z_pure0 (fun ad hx hb _ k => lv_i2s hx hb hd (by
    rw [← Int32.toInt_inj]
    have h1 := Int.le_bmod (x := x) (m := 65536) (by decide)
    have h2 := Int.bmod_lt (x := x) (m := 65536) (by decide)
    rw [zi_r (by omega)]
    simp) k) k
theorem z_idiv {x y : Int} (hx : -2147483648 ≤ x ∧ x < 2147483648) (hy : -2147483648 ≤ y ∧ y < 2147483648) (h0 : y ≠ 0) (hd : decode cc pc = .ok (.idiv, 1)) (k : Z own cc mL rt d F (pc + 1) lv (vI (x.tdiv y) :: st) M) : Z own cc mL rt d F pc lv (vI y :: vI x :: st) M :=
  z_pure0 (fun ad hx1 hb _ k => lv_idiv hx1 hb hd (fun e => h0 ((zi_eq hy (by decide)).mp e)) (by
    rw [← Int32.ofInt_tdiv (by rw [zmn32]; omega) (by rw [zmx32]; omega) (by rw [zmn32]; omega) (by rw [zmx32]; omega)]
    exact k)) k
theorem z_idivp {x y : Int} (hx : 0 ≤ x ∧ x < 2147483648) (hy : 0 < y ∧ y < 2147483648) (hd : decode cc pc = .ok (.idiv, 1)) (k : Z own cc mL rt d F (pc + 1) lv (vI (x / y) :: st) M) : Z own cc mL rt d F pc lv (vI y :: vI x :: st) M :=
  z_idiv (by omega) (by omega) (by omega) hd (by rw [Int.tdiv_eq_ediv_of_nonneg hx.1]; exact k)
theorem z_irem {x y : Int} (hx : -2147483648 ≤ x ∧ x < 2147483648) (hy : -2147483648 ≤ y ∧ y < 2147483648) (h0 : y ≠ 0) (hd : decode cc pc = .ok (.irem, 1)) (k : Z own cc mL rt d F (pc + 1) lv (vI (x.tmod y) :: st) M) : Z own cc mL rt d F pc lv (vI y :: vI x :: st) M :=
  z_pure0 (fun ad hx1 hb _ k => lv_irem hx1 hb hd (fun e => h0 ((zi_eq hy (by decide)).mp e)) (by
    rw [← Int32.ofInt_tdiv (by rw [zmn32]; omega) (by rw [zmx32]; omega) (by rw [zmn32]; omega) (by rw [zmx32]; omega), ← Int32.ofInt_mul, ← Int32.ofInt_sub, show x - x.tdiv y * y = x.tmod y by rw [Int.tmod_def, Int.mul_comm]]
    exact k)) k
theorem z_iremp {x y : Int} (hx : 0 ≤ x ∧ x < 2147483648) (hy : 0 < y ∧ y < 2147483648) (hd : decode cc pc = .ok (.irem, 1)) (k : Z own cc mL rt d F (pc + 1) lv (vI (x % y) :: st) M) : Z own cc mL rt d F pc lv (vI y :: vI x :: st) M :=
  z_irem (by omega) (by omega) (by omega) hd (by rw [Int.tmod_eq_emod_of_nonneg hx.1]; exact k)
theorem z_ldiv {x y : Int} (hx : -9223372036854775808 ≤ x ∧ x < 9223372036854775808) (hy : -9223372036854775808 ≤ y ∧ y < 9223372036854775808) (h0 : y ≠ 0) (hd : decode cc pc = .ok (.ldiv, 1)) (k : Z own cc mL rt d F (pc + 1) lv (vJ (x.tdiv y) :: st) M) : Z own cc mL rt d F pc lv (vJ y :: vJ x :: st) M :=
  z_pure0 (fun ad hx1 hb _ k => lv_ldiv hx1 hb hd (fun e => h0 ((zl_eq hy (by decide)).mp e)) (by
    rw [← Int64.ofInt_tdiv (by rw [zmn64]; omega) (by rw [zmx64]; omega) (by rw [zmn64]; omega) (by rw [zmx64]; omega)]
    exact k)) k
theorem z_ldivp {x y : Int} (hx : 0 ≤ x ∧ x < 9223372036854775808) (hy : 0 < y ∧ y < 9223372036854775808) (hd : decode cc pc = .ok (.ldiv, 1)) (k : Z own cc mL rt d F (pc + 1) lv (vJ (x / y) :: st) M) : Z own cc mL rt d F pc lv (vJ y :: vJ x :: st) M :=
  z_ldiv (by omega) (by omega) (by omega) hd (by rw [Int.tdiv_eq_ediv_of_nonneg hx.1]; exact k)
def zand (x y : Int) : Int := (Int32.ofInt x &&& Int32.ofInt y).toInt
def zor (x y : Int) : Int := (Int32.ofInt x ||| Int32.ofInt y).toInt
def zxor (x y : Int) : Int := (Int32.ofInt x ^^^ Int32.ofInt y).toInt
def zshl (x y : Int) : Int := (Int32.ofInt x <<< (Int32.ofInt y &&& 31)).toInt
def zshr (x y : Int) : Int := (Int32.ofInt x >>> (Int32.ofInt y &&& 31)).toInt
def zushr (x y : Int) : Int := ((Int32.ofInt x).toUInt32 >>> ((Int32.ofInt y).toUInt32 &&& Int32.toUInt32 31)).toInt32.toInt
def zland (x y : Int) : Int := (Int64.ofInt x &&& Int64.ofInt y).toInt
def zlor (x y : Int) : Int := (Int64.ofInt x ||| Int64.ofInt y).toInt
def zlshl (x y : Int) : Int := (Int64.ofInt x <<< ((Int32.ofInt y).toInt64 &&& 63)).toInt
theorem z_iand {x y : Int} (hd : decode cc pc = .ok (.iand, 1)) (k : Z own cc mL rt d F (pc + 1) lv (vI (zand x y) :: st) M) : Z own cc mL rt d F pc lv (vI y :: vI x :: st) M :=
  z_pure0 (fun ad hx hb _ k => lv_iand hx hb hd (by unfold zand at k; simp only [List.map_cons, zc, Int32.ofInt_toInt] at k; exact k)) k
theorem z_ior {x y : Int} (hd : decode cc pc = .ok (.ior, 1)) (k : Z own cc mL rt d F (pc + 1) lv (vI (zor x y) :: st) M) : Z own cc mL rt d F pc lv (vI y :: vI x :: st) M :=
  z_pure0 (fun ad hx hb _ k => lv_ior hx hb hd (by unfold zor at k; simp only [List.map_cons, zc, Int32.ofInt_toInt] at k; exact k)) k
theorem z_ixor {x y : Int} (hd : decode cc pc = .ok (.ixor, 1)) (k : Z own cc mL rt d F (pc + 1) lv (vI (zxor x y) :: st) M) : Z own cc mL rt d F pc lv (vI y :: vI x :: st) M :=
  z_pure0 (fun ad hx hb _ k => lv_ixor hx hb hd (by unfold zxor at k; simp only [List.map_cons, zc, Int32.ofInt_toInt] at k; exact k)) k
theorem z_ishl {x y : Int} (hd : decode cc pc = .ok (.ishl, 1)) (k : Z own cc mL rt d F (pc + 1) lv (vI (zshl x y) :: st) M) : Z own cc mL rt d F pc lv (vI y :: vI x :: st) M :=
  z_pure0 (fun ad hx hb _ k => lv_ishl hx hb hd (by unfold zshl at k; simp only [List.map_cons, zc, Int32.ofInt_toInt] at k; exact k)) k
theorem z_ishr {x y : Int} (hd : decode cc pc = .ok (.ishr, 1)) (k : Z own cc mL rt d F (pc + 1) lv (vI (zshr x y) :: st) M) : Z own cc mL rt d F pc lv (vI y :: vI x :: st) M :=
  z_pure0 (fun ad hx hb _ k => lv_ishr hx hb hd (by unfold zshr at k; simp only [List.map_cons, zc, Int32.ofInt_toInt] at k; exact k)) k
theorem z_iushr {x y : Int} (hd : decode cc pc = .ok (.iushr, 1)) (k : Z own cc mL rt d F (pc + 1) lv (vI (zushr x y) :: st) M) : Z own cc mL rt d F pc lv (vI y :: vI x :: st) M :=
  z_pure0 (fun ad hx hb _ k => lv_iushr hx hb hd (v := Int32.ofInt (zushr x y)) (by unfold zushr; rw [Int32.ofInt_toInt]) k) k
theorem z_land {x y : Int} (hd : decode cc pc = .ok (.land, 1)) (k : Z own cc mL rt d F (pc + 1) lv (vJ (zland x y) :: st) M) : Z own cc mL rt d F pc lv (vJ y :: vJ x :: st) M :=
  z_pure0 (fun ad hx hb _ k => lv_land hx hb hd (by unfold zland at k; simp only [List.map_cons, zc, Int64.ofInt_toInt] at k; exact k)) k
theorem z_lor {x y : Int} (hd : decode cc pc = .ok (.lor, 1)) (k : Z own cc mL rt d F (pc + 1) lv (vJ (zlor x y) :: st) M) : Z own cc mL rt d F pc lv (vJ y :: vJ x :: st) M :=
  z_pure0 (fun ad hx hb _ k => lv_lor hx hb hd (by unfold zlor at k; simp only [List.map_cons, zc, Int64.ofInt_toInt] at k; exact k)) k
theorem z_lshl {x y : Int} (hd : decode cc pc = .ok (.lshl, 1)) (k : Z own cc mL rt d F (pc + 1) lv (vJ (zlshl x y) :: st) M) : Z own cc mL rt d F pc lv (vI y :: vJ x :: st) M :=
  z_pure0 (fun ad hx hb _ k => lv_lshl hx hb hd (v := Int64.ofInt (zlshl x y)) (by unfold zlshl; rw [Int64.ofInt_toInt]) k) k
def zcat : zV → Nat
  | .inr (.inl _) => 2
  | _ => 1
theorem zcat_c (ad : Nat → Nat) (v : zV) : (zc ad v).category = zcat v := by rcases v with x | x | x <;> rfl
theorem z_dup {v : zV} (hv : zcat v = 1) (hd : decode cc pc = .ok (.dup, 1)) (k : Z own cc mL rt d F (pc + 1) lv (v :: v :: st) M) : Z own cc mL rt d F pc lv (v :: st) M :=
  z_pure0 (fun ad hx hb _ k => lv_dup hx hb hd ((zcat_c ad v).trans hv) k) k
theorem z_dup2_11 {v w : zV} (hv : zcat v = 1) (hw : zcat w = 1) (hd : decode cc pc = .ok (.dup2, 1)) (k : Z own cc mL rt d F (pc + 1) lv (v :: w :: v :: w :: st) M) : Z own cc mL rt d F pc lv (v :: w :: st) M :=
  z_pure0 (fun ad hx hb _ k => lv_dup2_11 hx hb hd ((zcat_c ad v).trans hv) ((zcat_c ad w).trans hw) k) k
theorem z_dup2_2 {v : zV} (hv : zcat v = 2) (hd : decode cc pc = .ok (.dup2, 1)) (k : Z own cc mL rt d F (pc + 1) lv (v :: v :: st) M) : Z own cc mL rt d F pc lv (v :: st) M :=
  z_pure0 (fun ad hx hb _ k => lv_dup2_2 hx hb hd ((zcat_c ad v).trans hv) k) k
theorem z_pop2_2 {v : zV} (hv : zcat v = 2) (hd : decode cc pc = .ok (.pop2, 1)) (k : Z own cc mL rt d F (pc + 1) lv st M) : Z own cc mL rt d F pc lv (v :: st) M :=
  z_pure0 (fun ad hx hb _ k => lv_pop2_2 hx hb hd ((zcat_c ad v).trans hv) k) k
theorem z_goto {off : Int} {tgt : Nat} (hd : decode cc pc = .ok (.goto off, 3)) (ht : (pc : Int) + off = (tgt : Int)) (k : Z own cc mL rt d F tgt lv st M) : Z own cc mL rt d F pc lv st M :=
  z_pure0 (fun ad hx hb _ k => lv_goto hx hb hd ht k) k
end
end
section
section
variable {own : String} {cc : ByteArray} {mL : Nat} {rt : Option FieldType} {d : Nat} {F : zF} {pc : Nat} {lv lv2 : List (Option zV)} {st : List zV} {M : zM}
theorem z_iload_0 {x : Int} {r : List (Option zV)} (hd : decode cc pc = .ok (.iload_n 0, 1)) (k : Z own cc mL rt d F (pc + 1) (some (vI x) :: r) (vI x :: st) M) : Z own cc mL rt d F pc (some (vI x) :: r) st M :=
  z_pure0 (fun ad hx hb hl k => lv_iload_n hx hb hd rfl (zl_at (n := 0) (v := vI x) hl rfl) k) k
theorem z_lload_0 {x : Int} {r : List (Option zV)} (hd : decode cc pc = .ok (.lload_n 0, 1)) (k : Z own cc mL rt d F (pc + 1) (some (vJ x) :: r) (vJ x :: st) M) : Z own cc mL rt d F pc (some (vJ x) :: r) st M :=
  z_pure0 (fun ad hx hb hl k => lv_lload_n hx hb hd rfl (zl_at (n := 0) (v := vJ x) hl rfl) k) k
theorem z_aload_0 {x : Nat} {r : List (Option zV)} (hd : decode cc pc = .ok (.aload_n 0, 1)) (k : Z own cc mL rt d F (pc + 1) (some (vR x) :: r) (vR x :: st) M) : Z own cc mL rt d F pc (some (vR x) :: r) st M :=
  z_pure0 (fun ad hx hb hl k => lv_aload_n hx hb hd rfl (zl_at (n := 0) (v := vR x) hl rfl) k) k
theorem z_istore_0 {x : Int} {b : Option zV} {r : List (Option zV)} (hd : decode cc pc = .ok (.istore_n 0, 1)) (k : Z own cc mL rt d F (pc + 1) (some (vI x) :: r) st M) : Z own cc mL rt d F pc (b :: r) (vI x :: st) M :=
  z_pure (lv2 := some (vI x) :: r) (fun ad hx hb hl hn k => lv_istore_n hx hb hd rfl hl (Nat.lt_of_lt_of_le (by simp only [List.length_cons]; omega) hn) rfl (fun ls2 h => k ls2 (zl_set (i := 0) (v := vI x) (lv := b :: r) (fun j hj => by omega) h))) (by simp) k
theorem z_astore_0 {x : Nat} {b : Option zV} {r : List (Option zV)} (hd : decode cc pc = .ok (.astore_n 0, 1)) (k : Z own cc mL rt d F (pc + 1) (some (vR x) :: r) st M) : Z own cc mL rt d F pc (b :: r) (vR x :: st) M :=
  z_pure (lv2 := some (vR x) :: r) (fun ad hx hb hl hn k => lv_astore_n hx hb hd rfl hl (Nat.lt_of_lt_of_le (by simp only [List.length_cons]; omega) hn) rfl (fun ls2 h => k ls2 (zl_set (i := 0) (v := vR x) (lv := b :: r) (fun j hj => by omega) h))) (by simp) k
theorem z_lstore_0 {x : Int} {b b2 : Option zV} {r : List (Option zV)} (hd : decode cc pc = .ok (.lstore_n 0, 1)) (k : Z own cc mL rt d F (pc + 1) (some (vJ x) :: none :: r) st M) : Z own cc mL rt d F pc (b :: b2 :: r) (vJ x :: st) M :=
  z_pure (lv2 := some (vJ x) :: none :: r) (fun ad hx hb hl hn k => lv_lstore_n hx hb hd rfl hl (Nat.lt_of_lt_of_le (by simp only [List.length_cons]; omega) hn) rfl (fun ls2 h => k ls2 (zl_set2 (i := 0) (v := vJ x) (lv := b :: b2 :: r) (fun j hj => by omega) h))) (by simp) k
theorem z_iinc_0 {x n : Int} {r : List (Option zV)} (hd : decode cc pc = .ok (.iinc 0 n, 3)) (k : Z own cc mL rt d F (pc + 3) (some (vI (x + n)) :: r) st M) : Z own cc mL rt d F pc (some (vI x) :: r) st M :=
  z_pure (lv2 := some (vI (x + n)) :: r) (fun ad hx hb hl hn k => by
    obtain ⟨kk, hkk⟩ := List.getElem?_of_mem (zlv_mem (ad := ad) (some (vI x) :: r) 0 0 (vI x) rfl)
    exact lv_iinc (v := Int32.ofInt (x + n)) hx hb hd hl (k := kk) hkk (Int32.ofInt_add _ _).symm (Nat.lt_of_lt_of_le (by simp only [List.length_cons]; omega) hn) rfl (fun ls2 h => k ls2 (zl_set (i := 0 + 0) (v := vI (x + n)) (lv := some (vI x) :: r) (fun j hj => by omega) h))) (by simp) k
theorem z_iload_1 {x : Int} {a0 : Option zV} {r : List (Option zV)} (hd : decode cc pc = .ok (.iload_n 1, 1)) (k : Z own cc mL rt d F (pc + 1) (a0 :: some (vI x) :: r) (vI x :: st) M) : Z own cc mL rt d F pc (a0 :: some (vI x) :: r) st M :=
  z_pure0 (fun ad hx hb hl k => lv_iload_n hx hb hd rfl (zl_at (n := 1) (v := vI x) hl rfl) k) k
theorem z_lload_1 {x : Int} {a0 : Option zV} {r : List (Option zV)} (hd : decode cc pc = .ok (.lload_n 1, 1)) (k : Z own cc mL rt d F (pc + 1) (a0 :: some (vJ x) :: r) (vJ x :: st) M) : Z own cc mL rt d F pc (a0 :: some (vJ x) :: r) st M :=
  z_pure0 (fun ad hx hb hl k => lv_lload_n hx hb hd rfl (zl_at (n := 1) (v := vJ x) hl rfl) k) k
theorem z_aload_1 {x : Nat} {a0 : Option zV} {r : List (Option zV)} (hd : decode cc pc = .ok (.aload_n 1, 1)) (k : Z own cc mL rt d F (pc + 1) (a0 :: some (vR x) :: r) (vR x :: st) M) : Z own cc mL rt d F pc (a0 :: some (vR x) :: r) st M :=
  z_pure0 (fun ad hx hb hl k => lv_aload_n hx hb hd rfl (zl_at (n := 1) (v := vR x) hl rfl) k) k
theorem z_istore_1 {x : Int} {a0 : Option zV} {b : Option zV} {r : List (Option zV)} (h2 : zn2 a0 = true) (hd : decode cc pc = .ok (.istore_n 1, 1)) (k : Z own cc mL rt d F (pc + 1) (a0 :: some (vI x) :: r) st M) : Z own cc mL rt d F pc (a0 :: b :: r) (vI x :: st) M :=
  z_pure (lv2 := a0 :: some (vI x) :: r) (fun ad hx hb hl hn k => lv_istore_n hx hb hd rfl hl (Nat.lt_of_lt_of_le (by simp only [List.length_cons]; omega) hn) rfl (fun ls2 h => k ls2 (zl_set (i := 1) (v := vI x) (lv := a0 :: b :: r) (fun j hj => by have e : j = 0 := (by omega); subst e; exact h2) h))) (by simp) k
theorem z_astore_1 {x : Nat} {a0 : Option zV} {b : Option zV} {r : List (Option zV)} (h2 : zn2 a0 = true) (hd : decode cc pc = .ok (.astore_n 1, 1)) (k : Z own cc mL rt d F (pc + 1) (a0 :: some (vR x) :: r) st M) : Z own cc mL rt d F pc (a0 :: b :: r) (vR x :: st) M :=
  z_pure (lv2 := a0 :: some (vR x) :: r) (fun ad hx hb hl hn k => lv_astore_n hx hb hd rfl hl (Nat.lt_of_lt_of_le (by simp only [List.length_cons]; omega) hn) rfl (fun ls2 h => k ls2 (zl_set (i := 1) (v := vR x) (lv := a0 :: b :: r) (fun j hj => by have e : j = 0 := (by omega); subst e; exact h2) h))) (by simp) k
theorem z_lstore_1 {x : Int} {a0 : Option zV} {b b2 : Option zV} {r : List (Option zV)} (h2 : zn2 a0 = true) (hd : decode cc pc = .ok (.lstore_n 1, 1)) (k : Z own cc mL rt d F (pc + 1) (a0 :: some (vJ x) :: none :: r) st M) : Z own cc mL rt d F pc (a0 :: b :: b2 :: r) (vJ x :: st) M :=
  z_pure (lv2 := a0 :: some (vJ x) :: none :: r) (fun ad hx hb hl hn k => lv_lstore_n hx hb hd rfl hl (Nat.lt_of_lt_of_le (by simp only [List.length_cons]; omega) hn) rfl (fun ls2 h => k ls2 (zl_set2 (i := 1) (v := vJ x) (lv := a0 :: b :: b2 :: r) (fun j hj => by have e : j = 0 := (by omega); subst e; exact h2) h))) (by simp) k
theorem z_iinc_1 {x n : Int} {a0 : Option zV} {r : List (Option zV)} (h2 : zn2 a0 = true) (hd : decode cc pc = .ok (.iinc 1 n, 3)) (k : Z own cc mL rt d F (pc + 3) (a0 :: some (vI (x + n)) :: r) st M) : Z own cc mL rt d F pc (a0 :: some (vI x) :: r) st M :=
  z_pure (lv2 := a0 :: some (vI (x + n)) :: r) (fun ad hx hb hl hn k => by
    obtain ⟨kk, hkk⟩ := List.getElem?_of_mem (zlv_mem (ad := ad) (a0 :: some (vI x) :: r) 0 1 (vI x) rfl)
    exact lv_iinc (v := Int32.ofInt (x + n)) hx hb hd hl (k := kk) hkk (Int32.ofInt_add _ _).symm (Nat.lt_of_lt_of_le (by simp only [List.length_cons]; omega) hn) rfl (fun ls2 h => k ls2 (zl_set (i := 0 + 1) (v := vI (x + n)) (lv := a0 :: some (vI x) :: r) (fun j hj => by have e : j = 0 := (by omega); subst e; exact h2) h))) (by simp) k
theorem z_iload_2 {x : Int} {a0 a1 : Option zV} {r : List (Option zV)} (hd : decode cc pc = .ok (.iload_n 2, 1)) (k : Z own cc mL rt d F (pc + 1) (a0 :: a1 :: some (vI x) :: r) (vI x :: st) M) : Z own cc mL rt d F pc (a0 :: a1 :: some (vI x) :: r) st M :=
  z_pure0 (fun ad hx hb hl k => lv_iload_n hx hb hd rfl (zl_at (n := 2) (v := vI x) hl rfl) k) k
theorem z_lload_2 {x : Int} {a0 a1 : Option zV} {r : List (Option zV)} (hd : decode cc pc = .ok (.lload_n 2, 1)) (k : Z own cc mL rt d F (pc + 1) (a0 :: a1 :: some (vJ x) :: r) (vJ x :: st) M) : Z own cc mL rt d F pc (a0 :: a1 :: some (vJ x) :: r) st M :=
  z_pure0 (fun ad hx hb hl k => lv_lload_n hx hb hd rfl (zl_at (n := 2) (v := vJ x) hl rfl) k) k
theorem z_aload_2 {x : Nat} {a0 a1 : Option zV} {r : List (Option zV)} (hd : decode cc pc = .ok (.aload_n 2, 1)) (k : Z own cc mL rt d F (pc + 1) (a0 :: a1 :: some (vR x) :: r) (vR x :: st) M) : Z own cc mL rt d F pc (a0 :: a1 :: some (vR x) :: r) st M :=
  z_pure0 (fun ad hx hb hl k => lv_aload_n hx hb hd rfl (zl_at (n := 2) (v := vR x) hl rfl) k) k
theorem z_istore_2 {x : Int} {a0 a1 : Option zV} {b : Option zV} {r : List (Option zV)} (h2 : zn2 a1 = true) (hd : decode cc pc = .ok (.istore_n 2, 1)) (k : Z own cc mL rt d F (pc + 1) (a0 :: a1 :: some (vI x) :: r) st M) : Z own cc mL rt d F pc (a0 :: a1 :: b :: r) (vI x :: st) M :=
  z_pure (lv2 := a0 :: a1 :: some (vI x) :: r) (fun ad hx hb hl hn k => lv_istore_n hx hb hd rfl hl (Nat.lt_of_lt_of_le (by simp only [List.length_cons]; omega) hn) rfl (fun ls2 h => k ls2 (zl_set (i := 2) (v := vI x) (lv := a0 :: a1 :: b :: r) (fun j hj => by have e : j = 1 := (by omega); subst e; exact h2) h))) (by simp) k
theorem z_astore_2 {x : Nat} {a0 a1 : Option zV} {b : Option zV} {r : List (Option zV)} (h2 : zn2 a1 = true) (hd : decode cc pc = .ok (.astore_n 2, 1)) (k : Z own cc mL rt d F (pc + 1) (a0 :: a1 :: some (vR x) :: r) st M) : Z own cc mL rt d F pc (a0 :: a1 :: b :: r) (vR x :: st) M :=
  z_pure (lv2 := a0 :: a1 :: some (vR x) :: r) (fun ad hx hb hl hn k => lv_astore_n hx hb hd rfl hl (Nat.lt_of_lt_of_le (by simp only [List.length_cons]; omega) hn) rfl (fun ls2 h => k ls2 (zl_set (i := 2) (v := vR x) (lv := a0 :: a1 :: b :: r) (fun j hj => by have e : j = 1 := (by omega); subst e; exact h2) h))) (by simp) k
theorem z_lstore_2 {x : Int} {a0 a1 : Option zV} {b b2 : Option zV} {r : List (Option zV)} (h2 : zn2 a1 = true) (hd : decode cc pc = .ok (.lstore_n 2, 1)) (k : Z own cc mL rt d F (pc + 1) (a0 :: a1 :: some (vJ x) :: none :: r) st M) : Z own cc mL rt d F pc (a0 :: a1 :: b :: b2 :: r) (vJ x :: st) M :=
  z_pure (lv2 := a0 :: a1 :: some (vJ x) :: none :: r) (fun ad hx hb hl hn k => lv_lstore_n hx hb hd rfl hl (Nat.lt_of_lt_of_le (by simp only [List.length_cons]; omega) hn) rfl (fun ls2 h => k ls2 (zl_set2 (i := 2) (v := vJ x) (lv := a0 :: a1 :: b :: b2 :: r) (fun j hj => by have e : j = 1 := (by omega); subst e; exact h2) h))) (by simp) k
theorem z_iinc_2 {x n : Int} {a0 a1 : Option zV} {r : List (Option zV)} (h2 : zn2 a1 = true) (hd : decode cc pc = .ok (.iinc 2 n, 3)) (k : Z own cc mL rt d F (pc + 3) (a0 :: a1 :: some (vI (x + n)) :: r) st M) : Z own cc mL rt d F pc (a0 :: a1 :: some (vI x) :: r) st M :=
  z_pure (lv2 := a0 :: a1 :: some (vI (x + n)) :: r) (fun ad hx hb hl hn k => by
    obtain ⟨kk, hkk⟩ := List.getElem?_of_mem (zlv_mem (ad := ad) (a0 :: a1 :: some (vI x) :: r) 0 2 (vI x) rfl)
    exact lv_iinc (v := Int32.ofInt (x + n)) hx hb hd hl (k := kk) hkk (Int32.ofInt_add _ _).symm (Nat.lt_of_lt_of_le (by simp only [List.length_cons]; omega) hn) rfl (fun ls2 h => k ls2 (zl_set (i := 0 + 2) (v := vI (x + n)) (lv := a0 :: a1 :: some (vI x) :: r) (fun j hj => by have e : j = 1 := (by omega); subst e; exact h2) h))) (by simp) k
theorem z_iload_3 {x : Int} {a0 a1 a2 : Option zV} {r : List (Option zV)} (hd : decode cc pc = .ok (.iload_n 3, 1)) (k : Z own cc mL rt d F (pc + 1) (a0 :: a1 :: a2 :: some (vI x) :: r) (vI x :: st) M) : Z own cc mL rt d F pc (a0 :: a1 :: a2 :: some (vI x) :: r) st M :=
  z_pure0 (fun ad hx hb hl k => lv_iload_n hx hb hd rfl (zl_at (n := 3) (v := vI x) hl rfl) k) k
theorem z_lload_3 {x : Int} {a0 a1 a2 : Option zV} {r : List (Option zV)} (hd : decode cc pc = .ok (.lload_n 3, 1)) (k : Z own cc mL rt d F (pc + 1) (a0 :: a1 :: a2 :: some (vJ x) :: r) (vJ x :: st) M) : Z own cc mL rt d F pc (a0 :: a1 :: a2 :: some (vJ x) :: r) st M :=
  z_pure0 (fun ad hx hb hl k => lv_lload_n hx hb hd rfl (zl_at (n := 3) (v := vJ x) hl rfl) k) k
theorem z_aload_3 {x : Nat} {a0 a1 a2 : Option zV} {r : List (Option zV)} (hd : decode cc pc = .ok (.aload_n 3, 1)) (k : Z own cc mL rt d F (pc + 1) (a0 :: a1 :: a2 :: some (vR x) :: r) (vR x :: st) M) : Z own cc mL rt d F pc (a0 :: a1 :: a2 :: some (vR x) :: r) st M :=
  z_pure0 (fun ad hx hb hl k => lv_aload_n hx hb hd rfl (zl_at (n := 3) (v := vR x) hl rfl) k) k
theorem z_istore_3 {x : Int} {a0 a1 a2 : Option zV} {b : Option zV} {r : List (Option zV)} (h2 : zn2 a2 = true) (hd : decode cc pc = .ok (.istore_n 3, 1)) (k : Z own cc mL rt d F (pc + 1) (a0 :: a1 :: a2 :: some (vI x) :: r) st M) : Z own cc mL rt d F pc (a0 :: a1 :: a2 :: b :: r) (vI x :: st) M :=
  z_pure (lv2 := a0 :: a1 :: a2 :: some (vI x) :: r) (fun ad hx hb hl hn k => lv_istore_n hx hb hd rfl hl (Nat.lt_of_lt_of_le (by simp only [List.length_cons]; omega) hn) rfl (fun ls2 h => k ls2 (zl_set (i := 3) (v := vI x) (lv := a0 :: a1 :: a2 :: b :: r) (fun j hj => by have e : j = 2 := (by omega); subst e; exact h2) h))) (by simp) k
theorem z_astore_3 {x : Nat} {a0 a1 a2 : Option zV} {b : Option zV} {r : List (Option zV)} (h2 : zn2 a2 = true) (hd : decode cc pc = .ok (.astore_n 3, 1)) (k : Z own cc mL rt d F (pc + 1) (a0 :: a1 :: a2 :: some (vR x) :: r) st M) : Z own cc mL rt d F pc (a0 :: a1 :: a2 :: b :: r) (vR x :: st) M :=
  z_pure (lv2 := a0 :: a1 :: a2 :: some (vR x) :: r) (fun ad hx hb hl hn k => lv_astore_n hx hb hd rfl hl (Nat.lt_of_lt_of_le (by simp only [List.length_cons]; omega) hn) rfl (fun ls2 h => k ls2 (zl_set (i := 3) (v := vR x) (lv := a0 :: a1 :: a2 :: b :: r) (fun j hj => by have e : j = 2 := (by omega); subst e; exact h2) h))) (by simp) k
theorem z_lstore_3 {x : Int} {a0 a1 a2 : Option zV} {b b2 : Option zV} {r : List (Option zV)} (h2 : zn2 a2 = true) (hd : decode cc pc = .ok (.lstore_n 3, 1)) (k : Z own cc mL rt d F (pc + 1) (a0 :: a1 :: a2 :: some (vJ x) :: none :: r) st M) : Z own cc mL rt d F pc (a0 :: a1 :: a2 :: b :: b2 :: r) (vJ x :: st) M :=
  z_pure (lv2 := a0 :: a1 :: a2 :: some (vJ x) :: none :: r) (fun ad hx hb hl hn k => lv_lstore_n hx hb hd rfl hl (Nat.lt_of_lt_of_le (by simp only [List.length_cons]; omega) hn) rfl (fun ls2 h => k ls2 (zl_set2 (i := 3) (v := vJ x) (lv := a0 :: a1 :: a2 :: b :: b2 :: r) (fun j hj => by have e : j = 2 := (by omega); subst e; exact h2) h))) (by simp) k
theorem z_iinc_3 {x n : Int} {a0 a1 a2 : Option zV} {r : List (Option zV)} (h2 : zn2 a2 = true) (hd : decode cc pc = .ok (.iinc 3 n, 3)) (k : Z own cc mL rt d F (pc + 3) (a0 :: a1 :: a2 :: some (vI (x + n)) :: r) st M) : Z own cc mL rt d F pc (a0 :: a1 :: a2 :: some (vI x) :: r) st M :=
  z_pure (lv2 := a0 :: a1 :: a2 :: some (vI (x + n)) :: r) (fun ad hx hb hl hn k => by
    obtain ⟨kk, hkk⟩ := List.getElem?_of_mem (zlv_mem (ad := ad) (a0 :: a1 :: a2 :: some (vI x) :: r) 0 3 (vI x) rfl)
    exact lv_iinc (v := Int32.ofInt (x + n)) hx hb hd hl (k := kk) hkk (Int32.ofInt_add _ _).symm (Nat.lt_of_lt_of_le (by simp only [List.length_cons]; omega) hn) rfl (fun ls2 h => k ls2 (zl_set (i := 0 + 3) (v := vI (x + n)) (lv := a0 :: a1 :: a2 :: some (vI x) :: r) (fun j hj => by have e : j = 2 := (by omega); subst e; exact h2) h))) (by simp) k
theorem z_iload_4 {x : Int} {a0 a1 a2 a3 : Option zV} {r : List (Option zV)} (hd : decode cc pc = .ok (.iload 4, 2)) (k : Z own cc mL rt d F (pc + 2) (a0 :: a1 :: a2 :: a3 :: some (vI x) :: r) (vI x :: st) M) : Z own cc mL rt d F pc (a0 :: a1 :: a2 :: a3 :: some (vI x) :: r) st M :=
  z_pure0 (fun ad hx hb hl k => lv_iload hx hb hd (zl_at (n := 4) (v := vI x) hl rfl) k) k
theorem z_lload_4 {x : Int} {a0 a1 a2 a3 : Option zV} {r : List (Option zV)} (hd : decode cc pc = .ok (.lload 4, 2)) (k : Z own cc mL rt d F (pc + 2) (a0 :: a1 :: a2 :: a3 :: some (vJ x) :: r) (vJ x :: st) M) : Z own cc mL rt d F pc (a0 :: a1 :: a2 :: a3 :: some (vJ x) :: r) st M :=
  z_pure0 (fun ad hx hb hl k => lv_lload hx hb hd (zl_at (n := 4) (v := vJ x) hl rfl) k) k
theorem z_aload_4 {x : Nat} {a0 a1 a2 a3 : Option zV} {r : List (Option zV)} (hd : decode cc pc = .ok (.aload 4, 2)) (k : Z own cc mL rt d F (pc + 2) (a0 :: a1 :: a2 :: a3 :: some (vR x) :: r) (vR x :: st) M) : Z own cc mL rt d F pc (a0 :: a1 :: a2 :: a3 :: some (vR x) :: r) st M :=
  z_pure0 (fun ad hx hb hl k => lv_aload hx hb hd (zl_at (n := 4) (v := vR x) hl rfl) k) k
theorem z_istore_4 {x : Int} {a0 a1 a2 a3 : Option zV} {b : Option zV} {r : List (Option zV)} (h2 : zn2 a3 = true) (hd : decode cc pc = .ok (.istore 4, 2)) (k : Z own cc mL rt d F (pc + 2) (a0 :: a1 :: a2 :: a3 :: some (vI x) :: r) st M) : Z own cc mL rt d F pc (a0 :: a1 :: a2 :: a3 :: b :: r) (vI x :: st) M :=
  z_pure (lv2 := a0 :: a1 :: a2 :: a3 :: some (vI x) :: r) (fun ad hx hb hl hn k => lv_istore hx hb hd hl (Nat.lt_of_lt_of_le (by simp only [List.length_cons]; omega) hn) rfl (fun ls2 h => k ls2 (zl_set (i := 4) (v := vI x) (lv := a0 :: a1 :: a2 :: a3 :: b :: r) (fun j hj => by have e : j = 3 := (by omega); subst e; exact h2) h))) (by simp) k
theorem z_astore_4 {x : Nat} {a0 a1 a2 a3 : Option zV} {b : Option zV} {r : List (Option zV)} (h2 : zn2 a3 = true) (hd : decode cc pc = .ok (.astore 4, 2)) (k : Z own cc mL rt d F (pc + 2) (a0 :: a1 :: a2 :: a3 :: some (vR x) :: r) st M) : Z own cc mL rt d F pc (a0 :: a1 :: a2 :: a3 :: b :: r) (vR x :: st) M :=
  z_pure (lv2 := a0 :: a1 :: a2 :: a3 :: some (vR x) :: r) (fun ad hx hb hl hn k => lv_astore hx hb hd hl (Nat.lt_of_lt_of_le (by simp only [List.length_cons]; omega) hn) rfl (fun ls2 h => k ls2 (zl_set (i := 4) (v := vR x) (lv := a0 :: a1 :: a2 :: a3 :: b :: r) (fun j hj => by have e : j = 3 := (by omega); subst e; exact h2) h))) (by simp) k
theorem z_lstore_4 {x : Int} {a0 a1 a2 a3 : Option zV} {b b2 : Option zV} {r : List (Option zV)} (h2 : zn2 a3 = true) (hd : decode cc pc = .ok (.lstore 4, 2)) (k : Z own cc mL rt d F (pc + 2) (a0 :: a1 :: a2 :: a3 :: some (vJ x) :: none :: r) st M) : Z own cc mL rt d F pc (a0 :: a1 :: a2 :: a3 :: b :: b2 :: r) (vJ x :: st) M :=
  z_pure (lv2 := a0 :: a1 :: a2 :: a3 :: some (vJ x) :: none :: r) (fun ad hx hb hl hn k => lv_lstore hx hb hd hl (Nat.lt_of_lt_of_le (by simp only [List.length_cons]; omega) hn) rfl (fun ls2 h => k ls2 (zl_set2 (i := 4) (v := vJ x) (lv := a0 :: a1 :: a2 :: a3 :: b :: b2 :: r) (fun j hj => by have e : j = 3 := (by omega); subst e; exact h2) h))) (by simp) k
theorem z_iinc_4 {x n : Int} {a0 a1 a2 a3 : Option zV} {r : List (Option zV)} (h2 : zn2 a3 = true) (hd : decode cc pc = .ok (.iinc 4 n, 3)) (k : Z own cc mL rt d F (pc + 3) (a0 :: a1 :: a2 :: a3 :: some (vI (x + n)) :: r) st M) : Z own cc mL rt d F pc (a0 :: a1 :: a2 :: a3 :: some (vI x) :: r) st M :=
  z_pure (lv2 := a0 :: a1 :: a2 :: a3 :: some (vI (x + n)) :: r) (fun ad hx hb hl hn k => by
    obtain ⟨kk, hkk⟩ := List.getElem?_of_mem (zlv_mem (ad := ad) (a0 :: a1 :: a2 :: a3 :: some (vI x) :: r) 0 4 (vI x) rfl)
    exact lv_iinc (v := Int32.ofInt (x + n)) hx hb hd hl (k := kk) hkk (Int32.ofInt_add _ _).symm (Nat.lt_of_lt_of_le (by simp only [List.length_cons]; omega) hn) rfl (fun ls2 h => k ls2 (zl_set (i := 0 + 4) (v := vI (x + n)) (lv := a0 :: a1 :: a2 :: a3 :: some (vI x) :: r) (fun j hj => by have e : j = 3 := (by omega); subst e; exact h2) h))) (by simp) k
theorem z_iload_5 {x : Int} {a0 a1 a2 a3 a4 : Option zV} {r : List (Option zV)} (hd : decode cc pc = .ok (.iload 5, 2)) (k : Z own cc mL rt d F (pc + 2) (a0 :: a1 :: a2 :: a3 :: a4 :: some (vI x) :: r) (vI x :: st) M) : Z own cc mL rt d F pc (a0 :: a1 :: a2 :: a3 :: a4 :: some (vI x) :: r) st M :=
  z_pure0 (fun ad hx hb hl k => lv_iload hx hb hd (zl_at (n := 5) (v := vI x) hl rfl) k) k
theorem z_lload_5 {x : Int} {a0 a1 a2 a3 a4 : Option zV} {r : List (Option zV)} (hd : decode cc pc = .ok (.lload 5, 2)) (k : Z own cc mL rt d F (pc + 2) (a0 :: a1 :: a2 :: a3 :: a4 :: some (vJ x) :: r) (vJ x :: st) M) : Z own cc mL rt d F pc (a0 :: a1 :: a2 :: a3 :: a4 :: some (vJ x) :: r) st M :=
  z_pure0 (fun ad hx hb hl k => lv_lload hx hb hd (zl_at (n := 5) (v := vJ x) hl rfl) k) k
theorem z_aload_5 {x : Nat} {a0 a1 a2 a3 a4 : Option zV} {r : List (Option zV)} (hd : decode cc pc = .ok (.aload 5, 2)) (k : Z own cc mL rt d F (pc + 2) (a0 :: a1 :: a2 :: a3 :: a4 :: some (vR x) :: r) (vR x :: st) M) : Z own cc mL rt d F pc (a0 :: a1 :: a2 :: a3 :: a4 :: some (vR x) :: r) st M :=
  z_pure0 (fun ad hx hb hl k => lv_aload hx hb hd (zl_at (n := 5) (v := vR x) hl rfl) k) k
theorem z_istore_5 {x : Int} {a0 a1 a2 a3 a4 : Option zV} {b : Option zV} {r : List (Option zV)} (h2 : zn2 a4 = true) (hd : decode cc pc = .ok (.istore 5, 2)) (k : Z own cc mL rt d F (pc + 2) (a0 :: a1 :: a2 :: a3 :: a4 :: some (vI x) :: r) st M) : Z own cc mL rt d F pc (a0 :: a1 :: a2 :: a3 :: a4 :: b :: r) (vI x :: st) M :=
  z_pure (lv2 := a0 :: a1 :: a2 :: a3 :: a4 :: some (vI x) :: r) (fun ad hx hb hl hn k => lv_istore hx hb hd hl (Nat.lt_of_lt_of_le (by simp only [List.length_cons]; omega) hn) rfl (fun ls2 h => k ls2 (zl_set (i := 5) (v := vI x) (lv := a0 :: a1 :: a2 :: a3 :: a4 :: b :: r) (fun j hj => by have e : j = 4 := (by omega); subst e; exact h2) h))) (by simp) k
theorem z_astore_5 {x : Nat} {a0 a1 a2 a3 a4 : Option zV} {b : Option zV} {r : List (Option zV)} (h2 : zn2 a4 = true) (hd : decode cc pc = .ok (.astore 5, 2)) (k : Z own cc mL rt d F (pc + 2) (a0 :: a1 :: a2 :: a3 :: a4 :: some (vR x) :: r) st M) : Z own cc mL rt d F pc (a0 :: a1 :: a2 :: a3 :: a4 :: b :: r) (vR x :: st) M :=
  z_pure (lv2 := a0 :: a1 :: a2 :: a3 :: a4 :: some (vR x) :: r) (fun ad hx hb hl hn k => lv_astore hx hb hd hl (Nat.lt_of_lt_of_le (by simp only [List.length_cons]; omega) hn) rfl (fun ls2 h => k ls2 (zl_set (i := 5) (v := vR x) (lv := a0 :: a1 :: a2 :: a3 :: a4 :: b :: r) (fun j hj => by have e : j = 4 := (by omega); subst e; exact h2) h))) (by simp) k
theorem z_lstore_5 {x : Int} {a0 a1 a2 a3 a4 : Option zV} {b b2 : Option zV} {r : List (Option zV)} (h2 : zn2 a4 = true) (hd : decode cc pc = .ok (.lstore 5, 2)) (k : Z own cc mL rt d F (pc + 2) (a0 :: a1 :: a2 :: a3 :: a4 :: some (vJ x) :: none :: r) st M) : Z own cc mL rt d F pc (a0 :: a1 :: a2 :: a3 :: a4 :: b :: b2 :: r) (vJ x :: st) M :=
  z_pure (lv2 := a0 :: a1 :: a2 :: a3 :: a4 :: some (vJ x) :: none :: r) (fun ad hx hb hl hn k => lv_lstore hx hb hd hl (Nat.lt_of_lt_of_le (by simp only [List.length_cons]; omega) hn) rfl (fun ls2 h => k ls2 (zl_set2 (i := 5) (v := vJ x) (lv := a0 :: a1 :: a2 :: a3 :: a4 :: b :: b2 :: r) (fun j hj => by have e : j = 4 := (by omega); subst e; exact h2) h))) (by simp) k
theorem z_iinc_5 {x n : Int} {a0 a1 a2 a3 a4 : Option zV} {r : List (Option zV)} (h2 : zn2 a4 = true) (hd : decode cc pc = .ok (.iinc 5 n, 3)) (k : Z own cc mL rt d F (pc + 3) (a0 :: a1 :: a2 :: a3 :: a4 :: some (vI (x + n)) :: r) st M) : Z own cc mL rt d F pc (a0 :: a1 :: a2 :: a3 :: a4 :: some (vI x) :: r) st M :=
  z_pure (lv2 := a0 :: a1 :: a2 :: a3 :: a4 :: some (vI (x + n)) :: r) (fun ad hx hb hl hn k => by
    obtain ⟨kk, hkk⟩ := List.getElem?_of_mem (zlv_mem (ad := ad) (a0 :: a1 :: a2 :: a3 :: a4 :: some (vI x) :: r) 0 5 (vI x) rfl)
    exact lv_iinc (v := Int32.ofInt (x + n)) hx hb hd hl (k := kk) hkk (Int32.ofInt_add _ _).symm (Nat.lt_of_lt_of_le (by simp only [List.length_cons]; omega) hn) rfl (fun ls2 h => k ls2 (zl_set (i := 0 + 5) (v := vI (x + n)) (lv := a0 :: a1 :: a2 :: a3 :: a4 :: some (vI x) :: r) (fun j hj => by have e : j = 4 := (by omega); subst e; exact h2) h))) (by simp) k
theorem z_iload_6 {x : Int} {a0 a1 a2 a3 a4 a5 : Option zV} {r : List (Option zV)} (hd : decode cc pc = .ok (.iload 6, 2)) (k : Z own cc mL rt d F (pc + 2) (a0 :: a1 :: a2 :: a3 :: a4 :: a5 :: some (vI x) :: r) (vI x :: st) M) : Z own cc mL rt d F pc (a0 :: a1 :: a2 :: a3 :: a4 :: a5 :: some (vI x) :: r) st M :=
  z_pure0 (fun ad hx hb hl k => lv_iload hx hb hd (zl_at (n := 6) (v := vI x) hl rfl) k) k
theorem z_lload_6 {x : Int} {a0 a1 a2 a3 a4 a5 : Option zV} {r : List (Option zV)} (hd : decode cc pc = .ok (.lload 6, 2)) (k : Z own cc mL rt d F (pc + 2) (a0 :: a1 :: a2 :: a3 :: a4 :: a5 :: some (vJ x) :: r) (vJ x :: st) M) : Z own cc mL rt d F pc (a0 :: a1 :: a2 :: a3 :: a4 :: a5 :: some (vJ x) :: r) st M :=
  z_pure0 (fun ad hx hb hl k => lv_lload hx hb hd (zl_at (n := 6) (v := vJ x) hl rfl) k) k
theorem z_aload_6 {x : Nat} {a0 a1 a2 a3 a4 a5 : Option zV} {r : List (Option zV)} (hd : decode cc pc = .ok (.aload 6, 2)) (k : Z own cc mL rt d F (pc + 2) (a0 :: a1 :: a2 :: a3 :: a4 :: a5 :: some (vR x) :: r) (vR x :: st) M) : Z own cc mL rt d F pc (a0 :: a1 :: a2 :: a3 :: a4 :: a5 :: some (vR x) :: r) st M :=
  z_pure0 (fun ad hx hb hl k => lv_aload hx hb hd (zl_at (n := 6) (v := vR x) hl rfl) k) k
theorem z_istore_6 {x : Int} {a0 a1 a2 a3 a4 a5 : Option zV} {b : Option zV} {r : List (Option zV)} (h2 : zn2 a5 = true) (hd : decode cc pc = .ok (.istore 6, 2)) (k : Z own cc mL rt d F (pc + 2) (a0 :: a1 :: a2 :: a3 :: a4 :: a5 :: some (vI x) :: r) st M) : Z own cc mL rt d F pc (a0 :: a1 :: a2 :: a3 :: a4 :: a5 :: b :: r) (vI x :: st) M :=
  z_pure (lv2 := a0 :: a1 :: a2 :: a3 :: a4 :: a5 :: some (vI x) :: r) (fun ad hx hb hl hn k => lv_istore hx hb hd hl (Nat.lt_of_lt_of_le (by simp only [List.length_cons]; omega) hn) rfl (fun ls2 h => k ls2 (zl_set (i := 6) (v := vI x) (lv := a0 :: a1 :: a2 :: a3 :: a4 :: a5 :: b :: r) (fun j hj => by have e : j = 5 := (by omega); subst e; exact h2) h))) (by simp) k
theorem z_astore_6 {x : Nat} {a0 a1 a2 a3 a4 a5 : Option zV} {b : Option zV} {r : List (Option zV)} (h2 : zn2 a5 = true) (hd : decode cc pc = .ok (.astore 6, 2)) (k : Z own cc mL rt d F (pc + 2) (a0 :: a1 :: a2 :: a3 :: a4 :: a5 :: some (vR x) :: r) st M) : Z own cc mL rt d F pc (a0 :: a1 :: a2 :: a3 :: a4 :: a5 :: b :: r) (vR x :: st) M :=
  z_pure (lv2 := a0 :: a1 :: a2 :: a3 :: a4 :: a5 :: some (vR x) :: r) (fun ad hx hb hl hn k => lv_astore hx hb hd hl (Nat.lt_of_lt_of_le (by simp only [List.length_cons]; omega) hn) rfl (fun ls2 h => k ls2 (zl_set (i := 6) (v := vR x) (lv := a0 :: a1 :: a2 :: a3 :: a4 :: a5 :: b :: r) (fun j hj => by have e : j = 5 := (by omega); subst e; exact h2) h))) (by simp) k
theorem z_lstore_6 {x : Int} {a0 a1 a2 a3 a4 a5 : Option zV} {b b2 : Option zV} {r : List (Option zV)} (h2 : zn2 a5 = true) (hd : decode cc pc = .ok (.lstore 6, 2)) (k : Z own cc mL rt d F (pc + 2) (a0 :: a1 :: a2 :: a3 :: a4 :: a5 :: some (vJ x) :: none :: r) st M) : Z own cc mL rt d F pc (a0 :: a1 :: a2 :: a3 :: a4 :: a5 :: b :: b2 :: r) (vJ x :: st) M :=
  z_pure (lv2 := a0 :: a1 :: a2 :: a3 :: a4 :: a5 :: some (vJ x) :: none :: r) (fun ad hx hb hl hn k => lv_lstore hx hb hd hl (Nat.lt_of_lt_of_le (by simp only [List.length_cons]; omega) hn) rfl (fun ls2 h => k ls2 (zl_set2 (i := 6) (v := vJ x) (lv := a0 :: a1 :: a2 :: a3 :: a4 :: a5 :: b :: b2 :: r) (fun j hj => by have e : j = 5 := (by omega); subst e; exact h2) h))) (by simp) k
theorem z_iinc_6 {x n : Int} {a0 a1 a2 a3 a4 a5 : Option zV} {r : List (Option zV)} (h2 : zn2 a5 = true) (hd : decode cc pc = .ok (.iinc 6 n, 3)) (k : Z own cc mL rt d F (pc + 3) (a0 :: a1 :: a2 :: a3 :: a4 :: a5 :: some (vI (x + n)) :: r) st M) : Z own cc mL rt d F pc (a0 :: a1 :: a2 :: a3 :: a4 :: a5 :: some (vI x) :: r) st M :=
  z_pure (lv2 := a0 :: a1 :: a2 :: a3 :: a4 :: a5 :: some (vI (x + n)) :: r) (fun ad hx hb hl hn k => by
    obtain ⟨kk, hkk⟩ := List.getElem?_of_mem (zlv_mem (ad := ad) (a0 :: a1 :: a2 :: a3 :: a4 :: a5 :: some (vI x) :: r) 0 6 (vI x) rfl)
    exact lv_iinc (v := Int32.ofInt (x + n)) hx hb hd hl (k := kk) hkk (Int32.ofInt_add _ _).symm (Nat.lt_of_lt_of_le (by simp only [List.length_cons]; omega) hn) rfl (fun ls2 h => k ls2 (zl_set (i := 0 + 6) (v := vI (x + n)) (lv := a0 :: a1 :: a2 :: a3 :: a4 :: a5 :: some (vI x) :: r) (fun j hj => by have e : j = 5 := (by omega); subst e; exact h2) h))) (by simp) k
theorem z_iload_7 {x : Int} {a0 a1 a2 a3 a4 a5 a6 : Option zV} {r : List (Option zV)} (hd : decode cc pc = .ok (.iload 7, 2)) (k : Z own cc mL rt d F (pc + 2) (a0 :: a1 :: a2 :: a3 :: a4 :: a5 :: a6 :: some (vI x) :: r) (vI x :: st) M) : Z own cc mL rt d F pc (a0 :: a1 :: a2 :: a3 :: a4 :: a5 :: a6 :: some (vI x) :: r) st M :=
  z_pure0 (fun ad hx hb hl k => lv_iload hx hb hd (zl_at (n := 7) (v := vI x) hl rfl) k) k
theorem z_lload_7 {x : Int} {a0 a1 a2 a3 a4 a5 a6 : Option zV} {r : List (Option zV)} (hd : decode cc pc = .ok (.lload 7, 2)) (k : Z own cc mL rt d F (pc + 2) (a0 :: a1 :: a2 :: a3 :: a4 :: a5 :: a6 :: some (vJ x) :: r) (vJ x :: st) M) : Z own cc mL rt d F pc (a0 :: a1 :: a2 :: a3 :: a4 :: a5 :: a6 :: some (vJ x) :: r) st M :=
  z_pure0 (fun ad hx hb hl k => lv_lload hx hb hd (zl_at (n := 7) (v := vJ x) hl rfl) k) k
theorem z_aload_7 {x : Nat} {a0 a1 a2 a3 a4 a5 a6 : Option zV} {r : List (Option zV)} (hd : decode cc pc = .ok (.aload 7, 2)) (k : Z own cc mL rt d F (pc + 2) (a0 :: a1 :: a2 :: a3 :: a4 :: a5 :: a6 :: some (vR x) :: r) (vR x :: st) M) : Z own cc mL rt d F pc (a0 :: a1 :: a2 :: a3 :: a4 :: a5 :: a6 :: some (vR x) :: r) st M :=
  z_pure0 (fun ad hx hb hl k => lv_aload hx hb hd (zl_at (n := 7) (v := vR x) hl rfl) k) k
theorem z_istore_7 {x : Int} {a0 a1 a2 a3 a4 a5 a6 : Option zV} {b : Option zV} {r : List (Option zV)} (h2 : zn2 a6 = true) (hd : decode cc pc = .ok (.istore 7, 2)) (k : Z own cc mL rt d F (pc + 2) (a0 :: a1 :: a2 :: a3 :: a4 :: a5 :: a6 :: some (vI x) :: r) st M) : Z own cc mL rt d F pc (a0 :: a1 :: a2 :: a3 :: a4 :: a5 :: a6 :: b :: r) (vI x :: st) M :=
  z_pure (lv2 := a0 :: a1 :: a2 :: a3 :: a4 :: a5 :: a6 :: some (vI x) :: r) (fun ad hx hb hl hn k => lv_istore hx hb hd hl (Nat.lt_of_lt_of_le (by simp only [List.length_cons]; omega) hn) rfl (fun ls2 h => k ls2 (zl_set (i := 7) (v := vI x) (lv := a0 :: a1 :: a2 :: a3 :: a4 :: a5 :: a6 :: b :: r) (fun j hj => by have e : j = 6 := (by omega); subst e; exact h2) h))) (by simp) k
theorem z_astore_7 {x : Nat} {a0 a1 a2 a3 a4 a5 a6 : Option zV} {b : Option zV} {r : List (Option zV)} (h2 : zn2 a6 = true) (hd : decode cc pc = .ok (.astore 7, 2)) (k : Z own cc mL rt d F (pc + 2) (a0 :: a1 :: a2 :: a3 :: a4 :: a5 :: a6 :: some (vR x) :: r) st M) : Z own cc mL rt d F pc (a0 :: a1 :: a2 :: a3 :: a4 :: a5 :: a6 :: b :: r) (vR x :: st) M :=
  z_pure (lv2 := a0 :: a1 :: a2 :: a3 :: a4 :: a5 :: a6 :: some (vR x) :: r) (fun ad hx hb hl hn k => lv_astore hx hb hd hl (Nat.lt_of_lt_of_le (by simp only [List.length_cons]; omega) hn) rfl (fun ls2 h => k ls2 (zl_set (i := 7) (v := vR x) (lv := a0 :: a1 :: a2 :: a3 :: a4 :: a5 :: a6 :: b :: r) (fun j hj => by have e : j = 6 := (by omega); subst e; exact h2) h))) (by simp) k
theorem z_lstore_7 {x : Int} {a0 a1 a2 a3 a4 a5 a6 : Option zV} {b b2 : Option zV} {r : List (Option zV)} (h2 : zn2 a6 = true) (hd : decode cc pc = .ok (.lstore 7, 2)) (k : Z own cc mL rt d F (pc + 2) (a0 :: a1 :: a2 :: a3 :: a4 :: a5 :: a6 :: some (vJ x) :: none :: r) st M) : Z own cc mL rt d F pc (a0 :: a1 :: a2 :: a3 :: a4 :: a5 :: a6 :: b :: b2 :: r) (vJ x :: st) M :=
  z_pure (lv2 := a0 :: a1 :: a2 :: a3 :: a4 :: a5 :: a6 :: some (vJ x) :: none :: r) (fun ad hx hb hl hn k => lv_lstore hx hb hd hl (Nat.lt_of_lt_of_le (by simp only [List.length_cons]; omega) hn) rfl (fun ls2 h => k ls2 (zl_set2 (i := 7) (v := vJ x) (lv := a0 :: a1 :: a2 :: a3 :: a4 :: a5 :: a6 :: b :: b2 :: r) (fun j hj => by have e : j = 6 := (by omega); subst e; exact h2) h))) (by simp) k
theorem z_iinc_7 {x n : Int} {a0 a1 a2 a3 a4 a5 a6 : Option zV} {r : List (Option zV)} (h2 : zn2 a6 = true) (hd : decode cc pc = .ok (.iinc 7 n, 3)) (k : Z own cc mL rt d F (pc + 3) (a0 :: a1 :: a2 :: a3 :: a4 :: a5 :: a6 :: some (vI (x + n)) :: r) st M) : Z own cc mL rt d F pc (a0 :: a1 :: a2 :: a3 :: a4 :: a5 :: a6 :: some (vI x) :: r) st M :=
  z_pure (lv2 := a0 :: a1 :: a2 :: a3 :: a4 :: a5 :: a6 :: some (vI (x + n)) :: r) (fun ad hx hb hl hn k => by
    obtain ⟨kk, hkk⟩ := List.getElem?_of_mem (zlv_mem (ad := ad) (a0 :: a1 :: a2 :: a3 :: a4 :: a5 :: a6 :: some (vI x) :: r) 0 7 (vI x) rfl)
    exact lv_iinc (v := Int32.ofInt (x + n)) hx hb hd hl (k := kk) hkk (Int32.ofInt_add _ _).symm (Nat.lt_of_lt_of_le (by simp only [List.length_cons]; omega) hn) rfl (fun ls2 h => k ls2 (zl_set (i := 0 + 7) (v := vI (x + n)) (lv := a0 :: a1 :: a2 :: a3 :: a4 :: a5 :: a6 :: some (vI x) :: r) (fun j hj => by have e : j = 6 := (by omega); subst e; exact h2) h))) (by simp) k
theorem z_iload_8 {x : Int} {a0 a1 a2 a3 a4 a5 a6 a7 : Option zV} {r : List (Option zV)} (hd : decode cc pc = .ok (.iload 8, 2)) (k : Z own cc mL rt d F (pc + 2) (a0 :: a1 :: a2 :: a3 :: a4 :: a5 :: a6 :: a7 :: some (vI x) :: r) (vI x :: st) M) : Z own cc mL rt d F pc (a0 :: a1 :: a2 :: a3 :: a4 :: a5 :: a6 :: a7 :: some (vI x) :: r) st M :=
  z_pure0 (fun ad hx hb hl k => lv_iload hx hb hd (zl_at (n := 8) (v := vI x) hl rfl) k) k
theorem z_lload_8 {x : Int} {a0 a1 a2 a3 a4 a5 a6 a7 : Option zV} {r : List (Option zV)} (hd : decode cc pc = .ok (.lload 8, 2)) (k : Z own cc mL rt d F (pc + 2) (a0 :: a1 :: a2 :: a3 :: a4 :: a5 :: a6 :: a7 :: some (vJ x) :: r) (vJ x :: st) M) : Z own cc mL rt d F pc (a0 :: a1 :: a2 :: a3 :: a4 :: a5 :: a6 :: a7 :: some (vJ x) :: r) st M :=
  z_pure0 (fun ad hx hb hl k => lv_lload hx hb hd (zl_at (n := 8) (v := vJ x) hl rfl) k) k
theorem z_aload_8 {x : Nat} {a0 a1 a2 a3 a4 a5 a6 a7 : Option zV} {r : List (Option zV)} (hd : decode cc pc = .ok (.aload 8, 2)) (k : Z own cc mL rt d F (pc + 2) (a0 :: a1 :: a2 :: a3 :: a4 :: a5 :: a6 :: a7 :: some (vR x) :: r) (vR x :: st) M) : Z own cc mL rt d F pc (a0 :: a1 :: a2 :: a3 :: a4 :: a5 :: a6 :: a7 :: some (vR x) :: r) st M :=
  z_pure0 (fun ad hx hb hl k => lv_aload hx hb hd (zl_at (n := 8) (v := vR x) hl rfl) k) k
theorem z_istore_8 {x : Int} {a0 a1 a2 a3 a4 a5 a6 a7 : Option zV} {b : Option zV} {r : List (Option zV)} (h2 : zn2 a7 = true) (hd : decode cc pc = .ok (.istore 8, 2)) (k : Z own cc mL rt d F (pc + 2) (a0 :: a1 :: a2 :: a3 :: a4 :: a5 :: a6 :: a7 :: some (vI x) :: r) st M) : Z own cc mL rt d F pc (a0 :: a1 :: a2 :: a3 :: a4 :: a5 :: a6 :: a7 :: b :: r) (vI x :: st) M :=
  z_pure (lv2 := a0 :: a1 :: a2 :: a3 :: a4 :: a5 :: a6 :: a7 :: some (vI x) :: r) (fun ad hx hb hl hn k => lv_istore hx hb hd hl (Nat.lt_of_lt_of_le (by simp only [List.length_cons]; omega) hn) rfl (fun ls2 h => k ls2 (zl_set (i := 8) (v := vI x) (lv := a0 :: a1 :: a2 :: a3 :: a4 :: a5 :: a6 :: a7 :: b :: r) (fun j hj => by have e : j = 7 := (by omega); subst e; exact h2) h))) (by simp) k
theorem z_astore_8 {x : Nat} {a0 a1 a2 a3 a4 a5 a6 a7 : Option zV} {b : Option zV} {r : List (Option zV)} (h2 : zn2 a7 = true) (hd : decode cc pc = .ok (.astore 8, 2)) (k : Z own cc mL rt d F (pc + 2) (a0 :: a1 :: a2 :: a3 :: a4 :: a5 :: a6 :: a7 :: some (vR x) :: r) st M) : Z own cc mL rt d F pc (a0 :: a1 :: a2 :: a3 :: a4 :: a5 :: a6 :: a7 :: b :: r) (vR x :: st) M :=
  z_pure (lv2 := a0 :: a1 :: a2 :: a3 :: a4 :: a5 :: a6 :: a7 :: some (vR x) :: r) (fun ad hx hb hl hn k => lv_astore hx hb hd hl (Nat.lt_of_lt_of_le (by simp only [List.length_cons]; omega) hn) rfl (fun ls2 h => k ls2 (zl_set (i := 8) (v := vR x) (lv := a0 :: a1 :: a2 :: a3 :: a4 :: a5 :: a6 :: a7 :: b :: r) (fun j hj => by have e : j = 7 := (by omega); subst e; exact h2) h))) (by simp) k
theorem z_lstore_8 {x : Int} {a0 a1 a2 a3 a4 a5 a6 a7 : Option zV} {b b2 : Option zV} {r : List (Option zV)} (h2 : zn2 a7 = true) (hd : decode cc pc = .ok (.lstore 8, 2)) (k : Z own cc mL rt d F (pc + 2) (a0 :: a1 :: a2 :: a3 :: a4 :: a5 :: a6 :: a7 :: some (vJ x) :: none :: r) st M) : Z own cc mL rt d F pc (a0 :: a1 :: a2 :: a3 :: a4 :: a5 :: a6 :: a7 :: b :: b2 :: r) (vJ x :: st) M :=
  z_pure (lv2 := a0 :: a1 :: a2 :: a3 :: a4 :: a5 :: a6 :: a7 :: some (vJ x) :: none :: r) (fun ad hx hb hl hn k => lv_lstore hx hb hd hl (Nat.lt_of_lt_of_le (by simp only [List.length_cons]; omega) hn) rfl (fun ls2 h => k ls2 (zl_set2 (i := 8) (v := vJ x) (lv := a0 :: a1 :: a2 :: a3 :: a4 :: a5 :: a6 :: a7 :: b :: b2 :: r) (fun j hj => by have e : j = 7 := (by omega); subst e; exact h2) h))) (by simp) k
theorem z_iinc_8 {x n : Int} {a0 a1 a2 a3 a4 a5 a6 a7 : Option zV} {r : List (Option zV)} (h2 : zn2 a7 = true) (hd : decode cc pc = .ok (.iinc 8 n, 3)) (k : Z own cc mL rt d F (pc + 3) (a0 :: a1 :: a2 :: a3 :: a4 :: a5 :: a6 :: a7 :: some (vI (x + n)) :: r) st M) : Z own cc mL rt d F pc (a0 :: a1 :: a2 :: a3 :: a4 :: a5 :: a6 :: a7 :: some (vI x) :: r) st M :=
  z_pure (lv2 := a0 :: a1 :: a2 :: a3 :: a4 :: a5 :: a6 :: a7 :: some (vI (x + n)) :: r) (fun ad hx hb hl hn k => by
    obtain ⟨kk, hkk⟩ := List.getElem?_of_mem (zlv_mem (ad := ad) (a0 :: a1 :: a2 :: a3 :: a4 :: a5 :: a6 :: a7 :: some (vI x) :: r) 0 8 (vI x) rfl)
    exact lv_iinc (v := Int32.ofInt (x + n)) hx hb hd hl (k := kk) hkk (Int32.ofInt_add _ _).symm (Nat.lt_of_lt_of_le (by simp only [List.length_cons]; omega) hn) rfl (fun ls2 h => k ls2 (zl_set (i := 0 + 8) (v := vI (x + n)) (lv := a0 :: a1 :: a2 :: a3 :: a4 :: a5 :: a6 :: a7 :: some (vI x) :: r) (fun j hj => by have e : j = 7 := (by omega); subst e; exact h2) h))) (by simp) k
theorem z_iload_9 {x : Int} {a0 a1 a2 a3 a4 a5 a6 a7 a8 : Option zV} {r : List (Option zV)} (hd : decode cc pc = .ok (.iload 9, 2)) (k : Z own cc mL rt d F (pc + 2) (a0 :: a1 :: a2 :: a3 :: a4 :: a5 :: a6 :: a7 :: a8 :: some (vI x) :: r) (vI x :: st) M) : Z own cc mL rt d F pc (a0 :: a1 :: a2 :: a3 :: a4 :: a5 :: a6 :: a7 :: a8 :: some (vI x) :: r) st M :=
  z_pure0 (fun ad hx hb hl k => lv_iload hx hb hd (zl_at (n := 9) (v := vI x) hl rfl) k) k
theorem z_lload_9 {x : Int} {a0 a1 a2 a3 a4 a5 a6 a7 a8 : Option zV} {r : List (Option zV)} (hd : decode cc pc = .ok (.lload 9, 2)) (k : Z own cc mL rt d F (pc + 2) (a0 :: a1 :: a2 :: a3 :: a4 :: a5 :: a6 :: a7 :: a8 :: some (vJ x) :: r) (vJ x :: st) M) : Z own cc mL rt d F pc (a0 :: a1 :: a2 :: a3 :: a4 :: a5 :: a6 :: a7 :: a8 :: some (vJ x) :: r) st M :=
  z_pure0 (fun ad hx hb hl k => lv_lload hx hb hd (zl_at (n := 9) (v := vJ x) hl rfl) k) k
theorem z_aload_9 {x : Nat} {a0 a1 a2 a3 a4 a5 a6 a7 a8 : Option zV} {r : List (Option zV)} (hd : decode cc pc = .ok (.aload 9, 2)) (k : Z own cc mL rt d F (pc + 2) (a0 :: a1 :: a2 :: a3 :: a4 :: a5 :: a6 :: a7 :: a8 :: some (vR x) :: r) (vR x :: st) M) : Z own cc mL rt d F pc (a0 :: a1 :: a2 :: a3 :: a4 :: a5 :: a6 :: a7 :: a8 :: some (vR x) :: r) st M :=
  z_pure0 (fun ad hx hb hl k => lv_aload hx hb hd (zl_at (n := 9) (v := vR x) hl rfl) k) k
theorem z_istore_9 {x : Int} {a0 a1 a2 a3 a4 a5 a6 a7 a8 : Option zV} {b : Option zV} {r : List (Option zV)} (h2 : zn2 a8 = true) (hd : decode cc pc = .ok (.istore 9, 2)) (k : Z own cc mL rt d F (pc + 2) (a0 :: a1 :: a2 :: a3 :: a4 :: a5 :: a6 :: a7 :: a8 :: some (vI x) :: r) st M) : Z own cc mL rt d F pc (a0 :: a1 :: a2 :: a3 :: a4 :: a5 :: a6 :: a7 :: a8 :: b :: r) (vI x :: st) M :=
  z_pure (lv2 := a0 :: a1 :: a2 :: a3 :: a4 :: a5 :: a6 :: a7 :: a8 :: some (vI x) :: r) (fun ad hx hb hl hn k => lv_istore hx hb hd hl (Nat.lt_of_lt_of_le (by simp only [List.length_cons]; omega) hn) rfl (fun ls2 h => k ls2 (zl_set (i := 9) (v := vI x) (lv := a0 :: a1 :: a2 :: a3 :: a4 :: a5 :: a6 :: a7 :: a8 :: b :: r) (fun j hj => by have e : j = 8 := (by omega); subst e; exact h2) h))) (by simp) k
theorem z_astore_9 {x : Nat} {a0 a1 a2 a3 a4 a5 a6 a7 a8 : Option zV} {b : Option zV} {r : List (Option zV)} (h2 : zn2 a8 = true) (hd : decode cc pc = .ok (.astore 9, 2)) (k : Z own cc mL rt d F (pc + 2) (a0 :: a1 :: a2 :: a3 :: a4 :: a5 :: a6 :: a7 :: a8 :: some (vR x) :: r) st M) : Z own cc mL rt d F pc (a0 :: a1 :: a2 :: a3 :: a4 :: a5 :: a6 :: a7 :: a8 :: b :: r) (vR x :: st) M :=
  z_pure (lv2 := a0 :: a1 :: a2 :: a3 :: a4 :: a5 :: a6 :: a7 :: a8 :: some (vR x) :: r) (fun ad hx hb hl hn k => lv_astore hx hb hd hl (Nat.lt_of_lt_of_le (by simp only [List.length_cons]; omega) hn) rfl (fun ls2 h => k ls2 (zl_set (i := 9) (v := vR x) (lv := a0 :: a1 :: a2 :: a3 :: a4 :: a5 :: a6 :: a7 :: a8 :: b :: r) (fun j hj => by have e : j = 8 := (by omega); subst e; exact h2) h))) (by simp) k
theorem z_lstore_9 {x : Int} {a0 a1 a2 a3 a4 a5 a6 a7 a8 : Option zV} {b b2 : Option zV} {r : List (Option zV)} (h2 : zn2 a8 = true) (hd : decode cc pc = .ok (.lstore 9, 2)) (k : Z own cc mL rt d F (pc + 2) (a0 :: a1 :: a2 :: a3 :: a4 :: a5 :: a6 :: a7 :: a8 :: some (vJ x) :: none :: r) st M) : Z own cc mL rt d F pc (a0 :: a1 :: a2 :: a3 :: a4 :: a5 :: a6 :: a7 :: a8 :: b :: b2 :: r) (vJ x :: st) M :=
  z_pure (lv2 := a0 :: a1 :: a2 :: a3 :: a4 :: a5 :: a6 :: a7 :: a8 :: some (vJ x) :: none :: r) (fun ad hx hb hl hn k => lv_lstore hx hb hd hl (Nat.lt_of_lt_of_le (by simp only [List.length_cons]; omega) hn) rfl (fun ls2 h => k ls2 (zl_set2 (i := 9) (v := vJ x) (lv := a0 :: a1 :: a2 :: a3 :: a4 :: a5 :: a6 :: a7 :: a8 :: b :: b2 :: r) (fun j hj => by have e : j = 8 := (by omega); subst e; exact h2) h))) (by simp) k
theorem z_iinc_9 {x n : Int} {a0 a1 a2 a3 a4 a5 a6 a7 a8 : Option zV} {r : List (Option zV)} (h2 : zn2 a8 = true) (hd : decode cc pc = .ok (.iinc 9 n, 3)) (k : Z own cc mL rt d F (pc + 3) (a0 :: a1 :: a2 :: a3 :: a4 :: a5 :: a6 :: a7 :: a8 :: some (vI (x + n)) :: r) st M) : Z own cc mL rt d F pc (a0 :: a1 :: a2 :: a3 :: a4 :: a5 :: a6 :: a7 :: a8 :: some (vI x) :: r) st M :=
  z_pure (lv2 := a0 :: a1 :: a2 :: a3 :: a4 :: a5 :: a6 :: a7 :: a8 :: some (vI (x + n)) :: r) (fun ad hx hb hl hn k => by
    obtain ⟨kk, hkk⟩ := List.getElem?_of_mem (zlv_mem (ad := ad) (a0 :: a1 :: a2 :: a3 :: a4 :: a5 :: a6 :: a7 :: a8 :: some (vI x) :: r) 0 9 (vI x) rfl)
    exact lv_iinc (v := Int32.ofInt (x + n)) hx hb hd hl (k := kk) hkk (Int32.ofInt_add _ _).symm (Nat.lt_of_lt_of_le (by simp only [List.length_cons]; omega) hn) rfl (fun ls2 h => k ls2 (zl_set (i := 0 + 9) (v := vI (x + n)) (lv := a0 :: a1 :: a2 :: a3 :: a4 :: a5 :: a6 :: a7 :: a8 :: some (vI x) :: r) (fun j hj => by have e : j = 8 := (by omega); subst e; exact h2) h))) (by simp) k
theorem z_iload_10 {x : Int} {a0 a1 a2 a3 a4 a5 a6 a7 a8 a9 : Option zV} {r : List (Option zV)} (hd : decode cc pc = .ok (.iload 10, 2)) (k : Z own cc mL rt d F (pc + 2) (a0 :: a1 :: a2 :: a3 :: a4 :: a5 :: a6 :: a7 :: a8 :: a9 :: some (vI x) :: r) (vI x :: st) M) : Z own cc mL rt d F pc (a0 :: a1 :: a2 :: a3 :: a4 :: a5 :: a6 :: a7 :: a8 :: a9 :: some (vI x) :: r) st M :=
  z_pure0 (fun ad hx hb hl k => lv_iload hx hb hd (zl_at (n := 10) (v := vI x) hl rfl) k) k
theorem z_lload_10 {x : Int} {a0 a1 a2 a3 a4 a5 a6 a7 a8 a9 : Option zV} {r : List (Option zV)} (hd : decode cc pc = .ok (.lload 10, 2)) (k : Z own cc mL rt d F (pc + 2) (a0 :: a1 :: a2 :: a3 :: a4 :: a5 :: a6 :: a7 :: a8 :: a9 :: some (vJ x) :: r) (vJ x :: st) M) : Z own cc mL rt d F pc (a0 :: a1 :: a2 :: a3 :: a4 :: a5 :: a6 :: a7 :: a8 :: a9 :: some (vJ x) :: r) st M :=
  z_pure0 (fun ad hx hb hl k => lv_lload hx hb hd (zl_at (n := 10) (v := vJ x) hl rfl) k) k
theorem z_aload_10 {x : Nat} {a0 a1 a2 a3 a4 a5 a6 a7 a8 a9 : Option zV} {r : List (Option zV)} (hd : decode cc pc = .ok (.aload 10, 2)) (k : Z own cc mL rt d F (pc + 2) (a0 :: a1 :: a2 :: a3 :: a4 :: a5 :: a6 :: a7 :: a8 :: a9 :: some (vR x) :: r) (vR x :: st) M) : Z own cc mL rt d F pc (a0 :: a1 :: a2 :: a3 :: a4 :: a5 :: a6 :: a7 :: a8 :: a9 :: some (vR x) :: r) st M :=
  z_pure0 (fun ad hx hb hl k => lv_aload hx hb hd (zl_at (n := 10) (v := vR x) hl rfl) k) k
theorem z_istore_10 {x : Int} {a0 a1 a2 a3 a4 a5 a6 a7 a8 a9 : Option zV} {b : Option zV} {r : List (Option zV)} (h2 : zn2 a9 = true) (hd : decode cc pc = .ok (.istore 10, 2)) (k : Z own cc mL rt d F (pc + 2) (a0 :: a1 :: a2 :: a3 :: a4 :: a5 :: a6 :: a7 :: a8 :: a9 :: some (vI x) :: r) st M) : Z own cc mL rt d F pc (a0 :: a1 :: a2 :: a3 :: a4 :: a5 :: a6 :: a7 :: a8 :: a9 :: b :: r) (vI x :: st) M :=
  z_pure (lv2 := a0 :: a1 :: a2 :: a3 :: a4 :: a5 :: a6 :: a7 :: a8 :: a9 :: some (vI x) :: r) (fun ad hx hb hl hn k => lv_istore hx hb hd hl (Nat.lt_of_lt_of_le (by simp only [List.length_cons]; omega) hn) rfl (fun ls2 h => k ls2 (zl_set (i := 10) (v := vI x) (lv := a0 :: a1 :: a2 :: a3 :: a4 :: a5 :: a6 :: a7 :: a8 :: a9 :: b :: r) (fun j hj => by have e : j = 9 := (by omega); subst e; exact h2) h))) (by simp) k
theorem z_astore_10 {x : Nat} {a0 a1 a2 a3 a4 a5 a6 a7 a8 a9 : Option zV} {b : Option zV} {r : List (Option zV)} (h2 : zn2 a9 = true) (hd : decode cc pc = .ok (.astore 10, 2)) (k : Z own cc mL rt d F (pc + 2) (a0 :: a1 :: a2 :: a3 :: a4 :: a5 :: a6 :: a7 :: a8 :: a9 :: some (vR x) :: r) st M) : Z own cc mL rt d F pc (a0 :: a1 :: a2 :: a3 :: a4 :: a5 :: a6 :: a7 :: a8 :: a9 :: b :: r) (vR x :: st) M :=
  z_pure (lv2 := a0 :: a1 :: a2 :: a3 :: a4 :: a5 :: a6 :: a7 :: a8 :: a9 :: some (vR x) :: r) (fun ad hx hb hl hn k => lv_astore hx hb hd hl (Nat.lt_of_lt_of_le (by simp only [List.length_cons]; omega) hn) rfl (fun ls2 h => k ls2 (zl_set (i := 10) (v := vR x) (lv := a0 :: a1 :: a2 :: a3 :: a4 :: a5 :: a6 :: a7 :: a8 :: a9 :: b :: r) (fun j hj => by have e : j = 9 := (by omega); subst e; exact h2) h))) (by simp) k
theorem z_lstore_10 {x : Int} {a0 a1 a2 a3 a4 a5 a6 a7 a8 a9 : Option zV} {b b2 : Option zV} {r : List (Option zV)} (h2 : zn2 a9 = true) (hd : decode cc pc = .ok (.lstore 10, 2)) (k : Z own cc mL rt d F (pc + 2) (a0 :: a1 :: a2 :: a3 :: a4 :: a5 :: a6 :: a7 :: a8 :: a9 :: some (vJ x) :: none :: r) st M) : Z own cc mL rt d F pc (a0 :: a1 :: a2 :: a3 :: a4 :: a5 :: a6 :: a7 :: a8 :: a9 :: b :: b2 :: r) (vJ x :: st) M :=
  z_pure (lv2 := a0 :: a1 :: a2 :: a3 :: a4 :: a5 :: a6 :: a7 :: a8 :: a9 :: some (vJ x) :: none :: r) (fun ad hx hb hl hn k => lv_lstore hx hb hd hl (Nat.lt_of_lt_of_le (by simp only [List.length_cons]; omega) hn) rfl (fun ls2 h => k ls2 (zl_set2 (i := 10) (v := vJ x) (lv := a0 :: a1 :: a2 :: a3 :: a4 :: a5 :: a6 :: a7 :: a8 :: a9 :: b :: b2 :: r) (fun j hj => by have e : j = 9 := (by omega); subst e; exact h2) h))) (by simp) k
theorem z_iinc_10 {x n : Int} {a0 a1 a2 a3 a4 a5 a6 a7 a8 a9 : Option zV} {r : List (Option zV)} (h2 : zn2 a9 = true) (hd : decode cc pc = .ok (.iinc 10 n, 3)) (k : Z own cc mL rt d F (pc + 3) (a0 :: a1 :: a2 :: a3 :: a4 :: a5 :: a6 :: a7 :: a8 :: a9 :: some (vI (x + n)) :: r) st M) : Z own cc mL rt d F pc (a0 :: a1 :: a2 :: a3 :: a4 :: a5 :: a6 :: a7 :: a8 :: a9 :: some (vI x) :: r) st M :=
  z_pure (lv2 := a0 :: a1 :: a2 :: a3 :: a4 :: a5 :: a6 :: a7 :: a8 :: a9 :: some (vI (x + n)) :: r) (fun ad hx hb hl hn k => by
    obtain ⟨kk, hkk⟩ := List.getElem?_of_mem (zlv_mem (ad := ad) (a0 :: a1 :: a2 :: a3 :: a4 :: a5 :: a6 :: a7 :: a8 :: a9 :: some (vI x) :: r) 0 10 (vI x) rfl)
    exact lv_iinc (v := Int32.ofInt (x + n)) hx hb hd hl (k := kk) hkk (Int32.ofInt_add _ _).symm (Nat.lt_of_lt_of_le (by simp only [List.length_cons]; omega) hn) rfl (fun ls2 h => k ls2 (zl_set (i := 0 + 10) (v := vI (x + n)) (lv := a0 :: a1 :: a2 :: a3 :: a4 :: a5 :: a6 :: a7 :: a8 :: a9 :: some (vI x) :: r) (fun j hj => by have e : j = 9 := (by omega); subst e; exact h2) h))) (by simp) k
theorem z_iload_11 {x : Int} {a0 a1 a2 a3 a4 a5 a6 a7 a8 a9 a10 : Option zV} {r : List (Option zV)} (hd : decode cc pc = .ok (.iload 11, 2)) (k : Z own cc mL rt d F (pc + 2) (a0 :: a1 :: a2 :: a3 :: a4 :: a5 :: a6 :: a7 :: a8 :: a9 :: a10 :: some (vI x) :: r) (vI x :: st) M) : Z own cc mL rt d F pc (a0 :: a1 :: a2 :: a3 :: a4 :: a5 :: a6 :: a7 :: a8 :: a9 :: a10 :: some (vI x) :: r) st M :=
  z_pure0 (fun ad hx hb hl k => lv_iload hx hb hd (zl_at (n := 11) (v := vI x) hl rfl) k) k
theorem z_lload_11 {x : Int} {a0 a1 a2 a3 a4 a5 a6 a7 a8 a9 a10 : Option zV} {r : List (Option zV)} (hd : decode cc pc = .ok (.lload 11, 2)) (k : Z own cc mL rt d F (pc + 2) (a0 :: a1 :: a2 :: a3 :: a4 :: a5 :: a6 :: a7 :: a8 :: a9 :: a10 :: some (vJ x) :: r) (vJ x :: st) M) : Z own cc mL rt d F pc (a0 :: a1 :: a2 :: a3 :: a4 :: a5 :: a6 :: a7 :: a8 :: a9 :: a10 :: some (vJ x) :: r) st M :=
  z_pure0 (fun ad hx hb hl k => lv_lload hx hb hd (zl_at (n := 11) (v := vJ x) hl rfl) k) k
theorem z_aload_11 {x : Nat} {a0 a1 a2 a3 a4 a5 a6 a7 a8 a9 a10 : Option zV} {r : List (Option zV)} (hd : decode cc pc = .ok (.aload 11, 2)) (k : Z own cc mL rt d F (pc + 2) (a0 :: a1 :: a2 :: a3 :: a4 :: a5 :: a6 :: a7 :: a8 :: a9 :: a10 :: some (vR x) :: r) (vR x :: st) M) : Z own cc mL rt d F pc (a0 :: a1 :: a2 :: a3 :: a4 :: a5 :: a6 :: a7 :: a8 :: a9 :: a10 :: some (vR x) :: r) st M :=
  z_pure0 (fun ad hx hb hl k => lv_aload hx hb hd (zl_at (n := 11) (v := vR x) hl rfl) k) k
theorem z_istore_11 {x : Int} {a0 a1 a2 a3 a4 a5 a6 a7 a8 a9 a10 : Option zV} {b : Option zV} {r : List (Option zV)} (h2 : zn2 a10 = true) (hd : decode cc pc = .ok (.istore 11, 2)) (k : Z own cc mL rt d F (pc + 2) (a0 :: a1 :: a2 :: a3 :: a4 :: a5 :: a6 :: a7 :: a8 :: a9 :: a10 :: some (vI x) :: r) st M) : Z own cc mL rt d F pc (a0 :: a1 :: a2 :: a3 :: a4 :: a5 :: a6 :: a7 :: a8 :: a9 :: a10 :: b :: r) (vI x :: st) M :=
  z_pure (lv2 := a0 :: a1 :: a2 :: a3 :: a4 :: a5 :: a6 :: a7 :: a8 :: a9 :: a10 :: some (vI x) :: r) (fun ad hx hb hl hn k => lv_istore hx hb hd hl (Nat.lt_of_lt_of_le (by simp only [List.length_cons]; omega) hn) rfl (fun ls2 h => k ls2 (zl_set (i := 11) (v := vI x) (lv := a0 :: a1 :: a2 :: a3 :: a4 :: a5 :: a6 :: a7 :: a8 :: a9 :: a10 :: b :: r) (fun j hj => by have e : j = 10 := (by omega); subst e; exact h2) h))) (by simp) k
theorem z_astore_11 {x : Nat} {a0 a1 a2 a3 a4 a5 a6 a7 a8 a9 a10 : Option zV} {b : Option zV} {r : List (Option zV)} (h2 : zn2 a10 = true) (hd : decode cc pc = .ok (.astore 11, 2)) (k : Z own cc mL rt d F (pc + 2) (a0 :: a1 :: a2 :: a3 :: a4 :: a5 :: a6 :: a7 :: a8 :: a9 :: a10 :: some (vR x) :: r) st M) : Z own cc mL rt d F pc (a0 :: a1 :: a2 :: a3 :: a4 :: a5 :: a6 :: a7 :: a8 :: a9 :: a10 :: b :: r) (vR x :: st) M :=
  z_pure (lv2 := a0 :: a1 :: a2 :: a3 :: a4 :: a5 :: a6 :: a7 :: a8 :: a9 :: a10 :: some (vR x) :: r) (fun ad hx hb hl hn k => lv_astore hx hb hd hl (Nat.lt_of_lt_of_le (by simp only [List.length_cons]; omega) hn) rfl (fun ls2 h => k ls2 (zl_set (i := 11) (v := vR x) (lv := a0 :: a1 :: a2 :: a3 :: a4 :: a5 :: a6 :: a7 :: a8 :: a9 :: a10 :: b :: r) (fun j hj => by have e : j = 10 := (by omega); subst e; exact h2) h))) (by simp) k
theorem z_lstore_11 {x : Int} {a0 a1 a2 a3 a4 a5 a6 a7 a8 a9 a10 : Option zV} {b b2 : Option zV} {r : List (Option zV)} (h2 : zn2 a10 = true) (hd : decode cc pc = .ok (.lstore 11, 2)) (k : Z own cc mL rt d F (pc + 2) (a0 :: a1 :: a2 :: a3 :: a4 :: a5 :: a6 :: a7 :: a8 :: a9 :: a10 :: some (vJ x) :: none :: r) st M) : Z own cc mL rt d F pc (a0 :: a1 :: a2 :: a3 :: a4 :: a5 :: a6 :: a7 :: a8 :: a9 :: a10 :: b :: b2 :: r) (vJ x :: st) M :=
  z_pure (lv2 := a0 :: a1 :: a2 :: a3 :: a4 :: a5 :: a6 :: a7 :: a8 :: a9 :: a10 :: some (vJ x) :: none :: r) (fun ad hx hb hl hn k => lv_lstore hx hb hd hl (Nat.lt_of_lt_of_le (by simp only [List.length_cons]; omega) hn) rfl (fun ls2 h => k ls2 (zl_set2 (i := 11) (v := vJ x) (lv := a0 :: a1 :: a2 :: a3 :: a4 :: a5 :: a6 :: a7 :: a8 :: a9 :: a10 :: b :: b2 :: r) (fun j hj => by have e : j = 10 := (by omega); subst e; exact h2) h))) (by simp) k
theorem z_iinc_11 {x n : Int} {a0 a1 a2 a3 a4 a5 a6 a7 a8 a9 a10 : Option zV} {r : List (Option zV)} (h2 : zn2 a10 = true) (hd : decode cc pc = .ok (.iinc 11 n, 3)) (k : Z own cc mL rt d F (pc + 3) (a0 :: a1 :: a2 :: a3 :: a4 :: a5 :: a6 :: a7 :: a8 :: a9 :: a10 :: some (vI (x + n)) :: r) st M) : Z own cc mL rt d F pc (a0 :: a1 :: a2 :: a3 :: a4 :: a5 :: a6 :: a7 :: a8 :: a9 :: a10 :: some (vI x) :: r) st M :=
  z_pure (lv2 := a0 :: a1 :: a2 :: a3 :: a4 :: a5 :: a6 :: a7 :: a8 :: a9 :: a10 :: some (vI (x + n)) :: r) (fun ad hx hb hl hn k => by
    obtain ⟨kk, hkk⟩ := List.getElem?_of_mem (zlv_mem (ad := ad) (a0 :: a1 :: a2 :: a3 :: a4 :: a5 :: a6 :: a7 :: a8 :: a9 :: a10 :: some (vI x) :: r) 0 11 (vI x) rfl)
    exact lv_iinc (v := Int32.ofInt (x + n)) hx hb hd hl (k := kk) hkk (Int32.ofInt_add _ _).symm (Nat.lt_of_lt_of_le (by simp only [List.length_cons]; omega) hn) rfl (fun ls2 h => k ls2 (zl_set (i := 0 + 11) (v := vI (x + n)) (lv := a0 :: a1 :: a2 :: a3 :: a4 :: a5 :: a6 :: a7 :: a8 :: a9 :: a10 :: some (vI x) :: r) (fun j hj => by have e : j = 10 := (by omega); subst e; exact h2) h))) (by simp) k
theorem z_iload_12 {x : Int} {a0 a1 a2 a3 a4 a5 a6 a7 a8 a9 a10 a11 : Option zV} {r : List (Option zV)} (hd : decode cc pc = .ok (.iload 12, 2)) (k : Z own cc mL rt d F (pc + 2) (a0 :: a1 :: a2 :: a3 :: a4 :: a5 :: a6 :: a7 :: a8 :: a9 :: a10 :: a11 :: some (vI x) :: r) (vI x :: st) M) : Z own cc mL rt d F pc (a0 :: a1 :: a2 :: a3 :: a4 :: a5 :: a6 :: a7 :: a8 :: a9 :: a10 :: a11 :: some (vI x) :: r) st M :=
  z_pure0 (fun ad hx hb hl k => lv_iload hx hb hd (zl_at (n := 12) (v := vI x) hl rfl) k) k
theorem z_lload_12 {x : Int} {a0 a1 a2 a3 a4 a5 a6 a7 a8 a9 a10 a11 : Option zV} {r : List (Option zV)} (hd : decode cc pc = .ok (.lload 12, 2)) (k : Z own cc mL rt d F (pc + 2) (a0 :: a1 :: a2 :: a3 :: a4 :: a5 :: a6 :: a7 :: a8 :: a9 :: a10 :: a11 :: some (vJ x) :: r) (vJ x :: st) M) : Z own cc mL rt d F pc (a0 :: a1 :: a2 :: a3 :: a4 :: a5 :: a6 :: a7 :: a8 :: a9 :: a10 :: a11 :: some (vJ x) :: r) st M :=
  z_pure0 (fun ad hx hb hl k => lv_lload hx hb hd (zl_at (n := 12) (v := vJ x) hl rfl) k) k
theorem z_aload_12 {x : Nat} {a0 a1 a2 a3 a4 a5 a6 a7 a8 a9 a10 a11 : Option zV} {r : List (Option zV)} (hd : decode cc pc = .ok (.aload 12, 2)) (k : Z own cc mL rt d F (pc + 2) (a0 :: a1 :: a2 :: a3 :: a4 :: a5 :: a6 :: a7 :: a8 :: a9 :: a10 :: a11 :: some (vR x) :: r) (vR x :: st) M) : Z own cc mL rt d F pc (a0 :: a1 :: a2 :: a3 :: a4 :: a5 :: a6 :: a7 :: a8 :: a9 :: a10 :: a11 :: some (vR x) :: r) st M :=
  z_pure0 (fun ad hx hb hl k => lv_aload hx hb hd (zl_at (n := 12) (v := vR x) hl rfl) k) k
theorem z_istore_12 {x : Int} {a0 a1 a2 a3 a4 a5 a6 a7 a8 a9 a10 a11 : Option zV} {b : Option zV} {r : List (Option zV)} (h2 : zn2 a11 = true) (hd : decode cc pc = .ok (.istore 12, 2)) (k : Z own cc mL rt d F (pc + 2) (a0 :: a1 :: a2 :: a3 :: a4 :: a5 :: a6 :: a7 :: a8 :: a9 :: a10 :: a11 :: some (vI x) :: r) st M) : Z own cc mL rt d F pc (a0 :: a1 :: a2 :: a3 :: a4 :: a5 :: a6 :: a7 :: a8 :: a9 :: a10 :: a11 :: b :: r) (vI x :: st) M :=
  z_pure (lv2 := a0 :: a1 :: a2 :: a3 :: a4 :: a5 :: a6 :: a7 :: a8 :: a9 :: a10 :: a11 :: some (vI x) :: r) (fun ad hx hb hl hn k => lv_istore hx hb hd hl (Nat.lt_of_lt_of_le (by simp only [List.length_cons]; omega) hn) rfl (fun ls2 h => k ls2 (zl_set (i := 12) (v := vI x) (lv := a0 :: a1 :: a2 :: a3 :: a4 :: a5 :: a6 :: a7 :: a8 :: a9 :: a10 :: a11 :: b :: r) (fun j hj => by have e : j = 11 := (by omega); subst e; exact h2) h))) (by simp) k
theorem z_astore_12 {x : Nat} {a0 a1 a2 a3 a4 a5 a6 a7 a8 a9 a10 a11 : Option zV} {b : Option zV} {r : List (Option zV)} (h2 : zn2 a11 = true) (hd : decode cc pc = .ok (.astore 12, 2)) (k : Z own cc mL rt d F (pc + 2) (a0 :: a1 :: a2 :: a3 :: a4 :: a5 :: a6 :: a7 :: a8 :: a9 :: a10 :: a11 :: some (vR x) :: r) st M) : Z own cc mL rt d F pc (a0 :: a1 :: a2 :: a3 :: a4 :: a5 :: a6 :: a7 :: a8 :: a9 :: a10 :: a11 :: b :: r) (vR x :: st) M :=
  z_pure (lv2 := a0 :: a1 :: a2 :: a3 :: a4 :: a5 :: a6 :: a7 :: a8 :: a9 :: a10 :: a11 :: some (vR x) :: r) (fun ad hx hb hl hn k => lv_astore hx hb hd hl (Nat.lt_of_lt_of_le (by simp only [List.length_cons]; omega) hn) rfl (fun ls2 h => k ls2 (zl_set (i := 12) (v := vR x) (lv := a0 :: a1 :: a2 :: a3 :: a4 :: a5 :: a6 :: a7 :: a8 :: a9 :: a10 :: a11 :: b :: r) (fun j hj => by have e : j = 11 := (by omega); subst e; exact h2) h))) (by simp) k
theorem z_lstore_12 {x : Int} {a0 a1 a2 a3 a4 a5 a6 a7 a8 a9 a10 a11 : Option zV} {b b2 : Option zV} {r : List (Option zV)} (h2 : zn2 a11 = true) (hd : decode cc pc = .ok (.lstore 12, 2)) (k : Z own cc mL rt d F (pc + 2) (a0 :: a1 :: a2 :: a3 :: a4 :: a5 :: a6 :: a7 :: a8 :: a9 :: a10 :: a11 :: some (vJ x) :: none :: r) st M) : Z own cc mL rt d F pc (a0 :: a1 :: a2 :: a3 :: a4 :: a5 :: a6 :: a7 :: a8 :: a9 :: a10 :: a11 :: b :: b2 :: r) (vJ x :: st) M :=
  z_pure (lv2 := a0 :: a1 :: a2 :: a3 :: a4 :: a5 :: a6 :: a7 :: a8 :: a9 :: a10 :: a11 :: some (vJ x) :: none :: r) (fun ad hx hb hl hn k => lv_lstore hx hb hd hl (Nat.lt_of_lt_of_le (by simp only [List.length_cons]; omega) hn) rfl (fun ls2 h => k ls2 (zl_set2 (i := 12) (v := vJ x) (lv := a0 :: a1 :: a2 :: a3 :: a4 :: a5 :: a6 :: a7 :: a8 :: a9 :: a10 :: a11 :: b :: b2 :: r) (fun j hj => by have e : j = 11 := (by omega); subst e; exact h2) h))) (by simp) k
theorem z_iinc_12 {x n : Int} {a0 a1 a2 a3 a4 a5 a6 a7 a8 a9 a10 a11 : Option zV} {r : List (Option zV)} (h2 : zn2 a11 = true) (hd : decode cc pc = .ok (.iinc 12 n, 3)) (k : Z own cc mL rt d F (pc + 3) (a0 :: a1 :: a2 :: a3 :: a4 :: a5 :: a6 :: a7 :: a8 :: a9 :: a10 :: a11 :: some (vI (x + n)) :: r) st M) : Z own cc mL rt d F pc (a0 :: a1 :: a2 :: a3 :: a4 :: a5 :: a6 :: a7 :: a8 :: a9 :: a10 :: a11 :: some (vI x) :: r) st M :=
  z_pure (lv2 := a0 :: a1 :: a2 :: a3 :: a4 :: a5 :: a6 :: a7 :: a8 :: a9 :: a10 :: a11 :: some (vI (x + n)) :: r) (fun ad hx hb hl hn k => by
    obtain ⟨kk, hkk⟩ := List.getElem?_of_mem (zlv_mem (ad := ad) (a0 :: a1 :: a2 :: a3 :: a4 :: a5 :: a6 :: a7 :: a8 :: a9 :: a10 :: a11 :: some (vI x) :: r) 0 12 (vI x) rfl)
    exact lv_iinc (v := Int32.ofInt (x + n)) hx hb hd hl (k := kk) hkk (Int32.ofInt_add _ _).symm (Nat.lt_of_lt_of_le (by simp only [List.length_cons]; omega) hn) rfl (fun ls2 h => k ls2 (zl_set (i := 0 + 12) (v := vI (x + n)) (lv := a0 :: a1 :: a2 :: a3 :: a4 :: a5 :: a6 :: a7 :: a8 :: a9 :: a10 :: a11 :: some (vI x) :: r) (fun j hj => by have e : j = 11 := (by omega); subst e; exact h2) h))) (by simp) k
theorem z_iload_13 {x : Int} {a0 a1 a2 a3 a4 a5 a6 a7 a8 a9 a10 a11 a12 : Option zV} {r : List (Option zV)} (hd : decode cc pc = .ok (.iload 13, 2)) (k : Z own cc mL rt d F (pc + 2) (a0 :: a1 :: a2 :: a3 :: a4 :: a5 :: a6 :: a7 :: a8 :: a9 :: a10 :: a11 :: a12 :: some (vI x) :: r) (vI x :: st) M) : Z own cc mL rt d F pc (a0 :: a1 :: a2 :: a3 :: a4 :: a5 :: a6 :: a7 :: a8 :: a9 :: a10 :: a11 :: a12 :: some (vI x) :: r) st M :=
  z_pure0 (fun ad hx hb hl k => lv_iload hx hb hd (zl_at (n := 13) (v := vI x) hl rfl) k) k
theorem z_lload_13 {x : Int} {a0 a1 a2 a3 a4 a5 a6 a7 a8 a9 a10 a11 a12 : Option zV} {r : List (Option zV)} (hd : decode cc pc = .ok (.lload 13, 2)) (k : Z own cc mL rt d F (pc + 2) (a0 :: a1 :: a2 :: a3 :: a4 :: a5 :: a6 :: a7 :: a8 :: a9 :: a10 :: a11 :: a12 :: some (vJ x) :: r) (vJ x :: st) M) : Z own cc mL rt d F pc (a0 :: a1 :: a2 :: a3 :: a4 :: a5 :: a6 :: a7 :: a8 :: a9 :: a10 :: a11 :: a12 :: some (vJ x) :: r) st M :=
  z_pure0 (fun ad hx hb hl k => lv_lload hx hb hd (zl_at (n := 13) (v := vJ x) hl rfl) k) k
theorem z_aload_13 {x : Nat} {a0 a1 a2 a3 a4 a5 a6 a7 a8 a9 a10 a11 a12 : Option zV} {r : List (Option zV)} (hd : decode cc pc = .ok (.aload 13, 2)) (k : Z own cc mL rt d F (pc + 2) (a0 :: a1 :: a2 :: a3 :: a4 :: a5 :: a6 :: a7 :: a8 :: a9 :: a10 :: a11 :: a12 :: some (vR x) :: r) (vR x :: st) M) : Z own cc mL rt d F pc (a0 :: a1 :: a2 :: a3 :: a4 :: a5 :: a6 :: a7 :: a8 :: a9 :: a10 :: a11 :: a12 :: some (vR x) :: r) st M :=
  z_pure0 (fun ad hx hb hl k => lv_aload hx hb hd (zl_at (n := 13) (v := vR x) hl rfl) k) k
theorem z_istore_13 {x : Int} {a0 a1 a2 a3 a4 a5 a6 a7 a8 a9 a10 a11 a12 : Option zV} {b : Option zV} {r : List (Option zV)} (h2 : zn2 a12 = true) (hd : decode cc pc = .ok (.istore 13, 2)) (k : Z own cc mL rt d F (pc + 2) (a0 :: a1 :: a2 :: a3 :: a4 :: a5 :: a6 :: a7 :: a8 :: a9 :: a10 :: a11 :: a12 :: some (vI x) :: r) st M) : Z own cc mL rt d F pc (a0 :: a1 :: a2 :: a3 :: a4 :: a5 :: a6 :: a7 :: a8 :: a9 :: a10 :: a11 :: a12 :: b :: r) (vI x :: st) M :=
  z_pure (lv2 := a0 :: a1 :: a2 :: a3 :: a4 :: a5 :: a6 :: a7 :: a8 :: a9 :: a10 :: a11 :: a12 :: some (vI x) :: r) (fun ad hx hb hl hn k => lv_istore hx hb hd hl (Nat.lt_of_lt_of_le (by simp only [List.length_cons]; omega) hn) rfl (fun ls2 h => k ls2 (zl_set (i := 13) (v := vI x) (lv := a0 :: a1 :: a2 :: a3 :: a4 :: a5 :: a6 :: a7 :: a8 :: a9 :: a10 :: a11 :: a12 :: b :: r) (fun j hj => by have e : j = 12 := (by omega); subst e; exact h2) h))) (by simp) k
theorem z_astore_13 {x : Nat} {a0 a1 a2 a3 a4 a5 a6 a7 a8 a9 a10 a11 a12 : Option zV} {b : Option zV} {r : List (Option zV)} (h2 : zn2 a12 = true) (hd : decode cc pc = .ok (.astore 13, 2)) (k : Z own cc mL rt d F (pc + 2) (a0 :: a1 :: a2 :: a3 :: a4 :: a5 :: a6 :: a7 :: a8 :: a9 :: a10 :: a11 :: a12 :: some (vR x) :: r) st M) : Z own cc mL rt d F pc (a0 :: a1 :: a2 :: a3 :: a4 :: a5 :: a6 :: a7 :: a8 :: a9 :: a10 :: a11 :: a12 :: b :: r) (vR x :: st) M :=
  z_pure (lv2 := a0 :: a1 :: a2 :: a3 :: a4 :: a5 :: a6 :: a7 :: a8 :: a9 :: a10 :: a11 :: a12 :: some (vR x) :: r) (fun ad hx hb hl hn k => lv_astore hx hb hd hl (Nat.lt_of_lt_of_le (by simp only [List.length_cons]; omega) hn) rfl (fun ls2 h => k ls2 (zl_set (i := 13) (v := vR x) (lv := a0 :: a1 :: a2 :: a3 :: a4 :: a5 :: a6 :: a7 :: a8 :: a9 :: a10 :: a11 :: a12 :: b :: r) (fun j hj => by have e : j = 12 := (by omega); subst e; exact h2) h))) (by simp) k
theorem z_lstore_13 {x : Int} {a0 a1 a2 a3 a4 a5 a6 a7 a8 a9 a10 a11 a12 : Option zV} {b b2 : Option zV} {r : List (Option zV)} (h2 : zn2 a12 = true) (hd : decode cc pc = .ok (.lstore 13, 2)) (k : Z own cc mL rt d F (pc + 2) (a0 :: a1 :: a2 :: a3 :: a4 :: a5 :: a6 :: a7 :: a8 :: a9 :: a10 :: a11 :: a12 :: some (vJ x) :: none :: r) st M) : Z own cc mL rt d F pc (a0 :: a1 :: a2 :: a3 :: a4 :: a5 :: a6 :: a7 :: a8 :: a9 :: a10 :: a11 :: a12 :: b :: b2 :: r) (vJ x :: st) M :=
  z_pure (lv2 := a0 :: a1 :: a2 :: a3 :: a4 :: a5 :: a6 :: a7 :: a8 :: a9 :: a10 :: a11 :: a12 :: some (vJ x) :: none :: r) (fun ad hx hb hl hn k => lv_lstore hx hb hd hl (Nat.lt_of_lt_of_le (by simp only [List.length_cons]; omega) hn) rfl (fun ls2 h => k ls2 (zl_set2 (i := 13) (v := vJ x) (lv := a0 :: a1 :: a2 :: a3 :: a4 :: a5 :: a6 :: a7 :: a8 :: a9 :: a10 :: a11 :: a12 :: b :: b2 :: r) (fun j hj => by have e : j = 12 := (by omega); subst e; exact h2) h))) (by simp) k
theorem z_iinc_13 {x n : Int} {a0 a1 a2 a3 a4 a5 a6 a7 a8 a9 a10 a11 a12 : Option zV} {r : List (Option zV)} (h2 : zn2 a12 = true) (hd : decode cc pc = .ok (.iinc 13 n, 3)) (k : Z own cc mL rt d F (pc + 3) (a0 :: a1 :: a2 :: a3 :: a4 :: a5 :: a6 :: a7 :: a8 :: a9 :: a10 :: a11 :: a12 :: some (vI (x + n)) :: r) st M) : Z own cc mL rt d F pc (a0 :: a1 :: a2 :: a3 :: a4 :: a5 :: a6 :: a7 :: a8 :: a9 :: a10 :: a11 :: a12 :: some (vI x) :: r) st M :=
  z_pure (lv2 := a0 :: a1 :: a2 :: a3 :: a4 :: a5 :: a6 :: a7 :: a8 :: a9 :: a10 :: a11 :: a12 :: some (vI (x + n)) :: r) (fun ad hx hb hl hn k => by
    obtain ⟨kk, hkk⟩ := List.getElem?_of_mem (zlv_mem (ad := ad) (a0 :: a1 :: a2 :: a3 :: a4 :: a5 :: a6 :: a7 :: a8 :: a9 :: a10 :: a11 :: a12 :: some (vI x) :: r) 0 13 (vI x) rfl)
    exact lv_iinc (v := Int32.ofInt (x + n)) hx hb hd hl (k := kk) hkk (Int32.ofInt_add _ _).symm (Nat.lt_of_lt_of_le (by simp only [List.length_cons]; omega) hn) rfl (fun ls2 h => k ls2 (zl_set (i := 0 + 13) (v := vI (x + n)) (lv := a0 :: a1 :: a2 :: a3 :: a4 :: a5 :: a6 :: a7 :: a8 :: a9 :: a10 :: a11 :: a12 :: some (vI x) :: r) (fun j hj => by have e : j = 12 := (by omega); subst e; exact h2) h))) (by simp) k
theorem z_iload_14 {x : Int} {a0 a1 a2 a3 a4 a5 a6 a7 a8 a9 a10 a11 a12 a13 : Option zV} {r : List (Option zV)} (hd : decode cc pc = .ok (.iload 14, 2)) (k : Z own cc mL rt d F (pc + 2) (a0 :: a1 :: a2 :: a3 :: a4 :: a5 :: a6 :: a7 :: a8 :: a9 :: a10 :: a11 :: a12 :: a13 :: some (vI x) :: r) (vI x :: st) M) : Z own cc mL rt d F pc (a0 :: a1 :: a2 :: a3 :: a4 :: a5 :: a6 :: a7 :: a8 :: a9 :: a10 :: a11 :: a12 :: a13 :: some (vI x) :: r) st M :=
  z_pure0 (fun ad hx hb hl k => lv_iload hx hb hd (zl_at (n := 14) (v := vI x) hl rfl) k) k
theorem z_lload_14 {x : Int} {a0 a1 a2 a3 a4 a5 a6 a7 a8 a9 a10 a11 a12 a13 : Option zV} {r : List (Option zV)} (hd : decode cc pc = .ok (.lload 14, 2)) (k : Z own cc mL rt d F (pc + 2) (a0 :: a1 :: a2 :: a3 :: a4 :: a5 :: a6 :: a7 :: a8 :: a9 :: a10 :: a11 :: a12 :: a13 :: some (vJ x) :: r) (vJ x :: st) M) : Z own cc mL rt d F pc (a0 :: a1 :: a2 :: a3 :: a4 :: a5 :: a6 :: a7 :: a8 :: a9 :: a10 :: a11 :: a12 :: a13 :: some (vJ x) :: r) st M :=
  z_pure0 (fun ad hx hb hl k => lv_lload hx hb hd (zl_at (n := 14) (v := vJ x) hl rfl) k) k
theorem z_aload_14 {x : Nat} {a0 a1 a2 a3 a4 a5 a6 a7 a8 a9 a10 a11 a12 a13 : Option zV} {r : List (Option zV)} (hd : decode cc pc = .ok (.aload 14, 2)) (k : Z own cc mL rt d F (pc + 2) (a0 :: a1 :: a2 :: a3 :: a4 :: a5 :: a6 :: a7 :: a8 :: a9 :: a10 :: a11 :: a12 :: a13 :: some (vR x) :: r) (vR x :: st) M) : Z own cc mL rt d F pc (a0 :: a1 :: a2 :: a3 :: a4 :: a5 :: a6 :: a7 :: a8 :: a9 :: a10 :: a11 :: a12 :: a13 :: some (vR x) :: r) st M :=
  z_pure0 (fun ad hx hb hl k => lv_aload hx hb hd (zl_at (n := 14) (v := vR x) hl rfl) k) k
theorem z_istore_14 {x : Int} {a0 a1 a2 a3 a4 a5 a6 a7 a8 a9 a10 a11 a12 a13 : Option zV} {b : Option zV} {r : List (Option zV)} (h2 : zn2 a13 = true) (hd : decode cc pc = .ok (.istore 14, 2)) (k : Z own cc mL rt d F (pc + 2) (a0 :: a1 :: a2 :: a3 :: a4 :: a5 :: a6 :: a7 :: a8 :: a9 :: a10 :: a11 :: a12 :: a13 :: some (vI x) :: r) st M) : Z own cc mL rt d F pc (a0 :: a1 :: a2 :: a3 :: a4 :: a5 :: a6 :: a7 :: a8 :: a9 :: a10 :: a11 :: a12 :: a13 :: b :: r) (vI x :: st) M :=
  z_pure (lv2 := a0 :: a1 :: a2 :: a3 :: a4 :: a5 :: a6 :: a7 :: a8 :: a9 :: a10 :: a11 :: a12 :: a13 :: some (vI x) :: r) (fun ad hx hb hl hn k => lv_istore hx hb hd hl (Nat.lt_of_lt_of_le (by simp only [List.length_cons]; omega) hn) rfl (fun ls2 h => k ls2 (zl_set (i := 14) (v := vI x) (lv := a0 :: a1 :: a2 :: a3 :: a4 :: a5 :: a6 :: a7 :: a8 :: a9 :: a10 :: a11 :: a12 :: a13 :: b :: r) (fun j hj => by have e : j = 13 := (by omega); subst e; exact h2) h))) (by simp) k
theorem z_astore_14 {x : Nat} {a0 a1 a2 a3 a4 a5 a6 a7 a8 a9 a10 a11 a12 a13 : Option zV} {b : Option zV} {r : List (Option zV)} (h2 : zn2 a13 = true) (hd : decode cc pc = .ok (.astore 14, 2)) (k : Z own cc mL rt d F (pc + 2) (a0 :: a1 :: a2 :: a3 :: a4 :: a5 :: a6 :: a7 :: a8 :: a9 :: a10 :: a11 :: a12 :: a13 :: some (vR x) :: r) st M) : Z own cc mL rt d F pc (a0 :: a1 :: a2 :: a3 :: a4 :: a5 :: a6 :: a7 :: a8 :: a9 :: a10 :: a11 :: a12 :: a13 :: b :: r) (vR x :: st) M :=
  z_pure (lv2 := a0 :: a1 :: a2 :: a3 :: a4 :: a5 :: a6 :: a7 :: a8 :: a9 :: a10 :: a11 :: a12 :: a13 :: some (vR x) :: r) (fun ad hx hb hl hn k => lv_astore hx hb hd hl (Nat.lt_of_lt_of_le (by simp only [List.length_cons]; omega) hn) rfl (fun ls2 h => k ls2 (zl_set (i := 14) (v := vR x) (lv := a0 :: a1 :: a2 :: a3 :: a4 :: a5 :: a6 :: a7 :: a8 :: a9 :: a10 :: a11 :: a12 :: a13 :: b :: r) (fun j hj => by have e : j = 13 := (by omega); subst e; exact h2) h))) (by simp) k
theorem z_lstore_14 {x : Int} {a0 a1 a2 a3 a4 a5 a6 a7 a8 a9 a10 a11 a12 a13 : Option zV} {b b2 : Option zV} {r : List (Option zV)} (h2 : zn2 a13 = true) (hd : decode cc pc = .ok (.lstore 14, 2)) (k : Z own cc mL rt d F (pc + 2) (a0 :: a1 :: a2 :: a3 :: a4 :: a5 :: a6 :: a7 :: a8 :: a9 :: a10 :: a11 :: a12 :: a13 :: some (vJ x) :: none :: r) st M) : Z own cc mL rt d F pc (a0 :: a1 :: a2 :: a3 :: a4 :: a5 :: a6 :: a7 :: a8 :: a9 :: a10 :: a11 :: a12 :: a13 :: b :: b2 :: r) (vJ x :: st) M :=
  z_pure (lv2 := a0 :: a1 :: a2 :: a3 :: a4 :: a5 :: a6 :: a7 :: a8 :: a9 :: a10 :: a11 :: a12 :: a13 :: some (vJ x) :: none :: r) (fun ad hx hb hl hn k => lv_lstore hx hb hd hl (Nat.lt_of_lt_of_le (by simp only [List.length_cons]; omega) hn) rfl (fun ls2 h => k ls2 (zl_set2 (i := 14) (v := vJ x) (lv := a0 :: a1 :: a2 :: a3 :: a4 :: a5 :: a6 :: a7 :: a8 :: a9 :: a10 :: a11 :: a12 :: a13 :: b :: b2 :: r) (fun j hj => by have e : j = 13 := (by omega); subst e; exact h2) h))) (by simp) k
theorem z_iinc_14 {x n : Int} {a0 a1 a2 a3 a4 a5 a6 a7 a8 a9 a10 a11 a12 a13 : Option zV} {r : List (Option zV)} (h2 : zn2 a13 = true) (hd : decode cc pc = .ok (.iinc 14 n, 3)) (k : Z own cc mL rt d F (pc + 3) (a0 :: a1 :: a2 :: a3 :: a4 :: a5 :: a6 :: a7 :: a8 :: a9 :: a10 :: a11 :: a12 :: a13 :: some (vI (x + n)) :: r) st M) : Z own cc mL rt d F pc (a0 :: a1 :: a2 :: a3 :: a4 :: a5 :: a6 :: a7 :: a8 :: a9 :: a10 :: a11 :: a12 :: a13 :: some (vI x) :: r) st M :=
  z_pure (lv2 := a0 :: a1 :: a2 :: a3 :: a4 :: a5 :: a6 :: a7 :: a8 :: a9 :: a10 :: a11 :: a12 :: a13 :: some (vI (x + n)) :: r) (fun ad hx hb hl hn k => by
    obtain ⟨kk, hkk⟩ := List.getElem?_of_mem (zlv_mem (ad := ad) (a0 :: a1 :: a2 :: a3 :: a4 :: a5 :: a6 :: a7 :: a8 :: a9 :: a10 :: a11 :: a12 :: a13 :: some (vI x) :: r) 0 14 (vI x) rfl)
    exact lv_iinc (v := Int32.ofInt (x + n)) hx hb hd hl (k := kk) hkk (Int32.ofInt_add _ _).symm (Nat.lt_of_lt_of_le (by simp only [List.length_cons]; omega) hn) rfl (fun ls2 h => k ls2 (zl_set (i := 0 + 14) (v := vI (x + n)) (lv := a0 :: a1 :: a2 :: a3 :: a4 :: a5 :: a6 :: a7 :: a8 :: a9 :: a10 :: a11 :: a12 :: a13 :: some (vI x) :: r) (fun j hj => by have e : j = 13 := (by omega); subst e; exact h2) h))) (by simp) k
theorem z_iload_15 {x : Int} {a0 a1 a2 a3 a4 a5 a6 a7 a8 a9 a10 a11 a12 a13 a14 : Option zV} {r : List (Option zV)} (hd : decode cc pc = .ok (.iload 15, 2)) (k : Z own cc mL rt d F (pc + 2) (a0 :: a1 :: a2 :: a3 :: a4 :: a5 :: a6 :: a7 :: a8 :: a9 :: a10 :: a11 :: a12 :: a13 :: a14 :: some (vI x) :: r) (vI x :: st) M) : Z own cc mL rt d F pc (a0 :: a1 :: a2 :: a3 :: a4 :: a5 :: a6 :: a7 :: a8 :: a9 :: a10 :: a11 :: a12 :: a13 :: a14 :: some (vI x) :: r) st M :=
  z_pure0 (fun ad hx hb hl k => lv_iload hx hb hd (zl_at (n := 15) (v := vI x) hl rfl) k) k
theorem z_lload_15 {x : Int} {a0 a1 a2 a3 a4 a5 a6 a7 a8 a9 a10 a11 a12 a13 a14 : Option zV} {r : List (Option zV)} (hd : decode cc pc = .ok (.lload 15, 2)) (k : Z own cc mL rt d F (pc + 2) (a0 :: a1 :: a2 :: a3 :: a4 :: a5 :: a6 :: a7 :: a8 :: a9 :: a10 :: a11 :: a12 :: a13 :: a14 :: some (vJ x) :: r) (vJ x :: st) M) : Z own cc mL rt d F pc (a0 :: a1 :: a2 :: a3 :: a4 :: a5 :: a6 :: a7 :: a8 :: a9 :: a10 :: a11 :: a12 :: a13 :: a14 :: some (vJ x) :: r) st M :=
  z_pure0 (fun ad hx hb hl k => lv_lload hx hb hd (zl_at (n := 15) (v := vJ x) hl rfl) k) k
theorem z_aload_15 {x : Nat} {a0 a1 a2 a3 a4 a5 a6 a7 a8 a9 a10 a11 a12 a13 a14 : Option zV} {r : List (Option zV)} (hd : decode cc pc = .ok (.aload 15, 2)) (k : Z own cc mL rt d F (pc + 2) (a0 :: a1 :: a2 :: a3 :: a4 :: a5 :: a6 :: a7 :: a8 :: a9 :: a10 :: a11 :: a12 :: a13 :: a14 :: some (vR x) :: r) (vR x :: st) M) : Z own cc mL rt d F pc (a0 :: a1 :: a2 :: a3 :: a4 :: a5 :: a6 :: a7 :: a8 :: a9 :: a10 :: a11 :: a12 :: a13 :: a14 :: some (vR x) :: r) st M :=
  z_pure0 (fun ad hx hb hl k => lv_aload hx hb hd (zl_at (n := 15) (v := vR x) hl rfl) k) k
theorem z_istore_15 {x : Int} {a0 a1 a2 a3 a4 a5 a6 a7 a8 a9 a10 a11 a12 a13 a14 : Option zV} {b : Option zV} {r : List (Option zV)} (h2 : zn2 a14 = true) (hd : decode cc pc = .ok (.istore 15, 2)) (k : Z own cc mL rt d F (pc + 2) (a0 :: a1 :: a2 :: a3 :: a4 :: a5 :: a6 :: a7 :: a8 :: a9 :: a10 :: a11 :: a12 :: a13 :: a14 :: some (vI x) :: r) st M) : Z own cc mL rt d F pc (a0 :: a1 :: a2 :: a3 :: a4 :: a5 :: a6 :: a7 :: a8 :: a9 :: a10 :: a11 :: a12 :: a13 :: a14 :: b :: r) (vI x :: st) M :=
  z_pure (lv2 := a0 :: a1 :: a2 :: a3 :: a4 :: a5 :: a6 :: a7 :: a8 :: a9 :: a10 :: a11 :: a12 :: a13 :: a14 :: some (vI x) :: r) (fun ad hx hb hl hn k => lv_istore hx hb hd hl (Nat.lt_of_lt_of_le (by simp only [List.length_cons]; omega) hn) rfl (fun ls2 h => k ls2 (zl_set (i := 15) (v := vI x) (lv := a0 :: a1 :: a2 :: a3 :: a4 :: a5 :: a6 :: a7 :: a8 :: a9 :: a10 :: a11 :: a12 :: a13 :: a14 :: b :: r) (fun j hj => by have e : j = 14 := (by omega); subst e; exact h2) h))) (by simp) k
theorem z_astore_15 {x : Nat} {a0 a1 a2 a3 a4 a5 a6 a7 a8 a9 a10 a11 a12 a13 a14 : Option zV} {b : Option zV} {r : List (Option zV)} (h2 : zn2 a14 = true) (hd : decode cc pc = .ok (.astore 15, 2)) (k : Z own cc mL rt d F (pc + 2) (a0 :: a1 :: a2 :: a3 :: a4 :: a5 :: a6 :: a7 :: a8 :: a9 :: a10 :: a11 :: a12 :: a13 :: a14 :: some (vR x) :: r) st M) : Z own cc mL rt d F pc (a0 :: a1 :: a2 :: a3 :: a4 :: a5 :: a6 :: a7 :: a8 :: a9 :: a10 :: a11 :: a12 :: a13 :: a14 :: b :: r) (vR x :: st) M :=
  z_pure (lv2 := a0 :: a1 :: a2 :: a3 :: a4 :: a5 :: a6 :: a7 :: a8 :: a9 :: a10 :: a11 :: a12 :: a13 :: a14 :: some (vR x) :: r) (fun ad hx hb hl hn k => lv_astore hx hb hd hl (Nat.lt_of_lt_of_le (by simp only [List.length_cons]; omega) hn) rfl (fun ls2 h => k ls2 (zl_set (i := 15) (v := vR x) (lv := a0 :: a1 :: a2 :: a3 :: a4 :: a5 :: a6 :: a7 :: a8 :: a9 :: a10 :: a11 :: a12 :: a13 :: a14 :: b :: r) (fun j hj => by have e : j = 14 := (by omega); subst e; exact h2) h))) (by simp) k
theorem z_lstore_15 {x : Int} {a0 a1 a2 a3 a4 a5 a6 a7 a8 a9 a10 a11 a12 a13 a14 : Option zV} {b b2 : Option zV} {r : List (Option zV)} (h2 : zn2 a14 = true) (hd : decode cc pc = .ok (.lstore 15, 2)) (k : Z own cc mL rt d F (pc + 2) (a0 :: a1 :: a2 :: a3 :: a4 :: a5 :: a6 :: a7 :: a8 :: a9 :: a10 :: a11 :: a12 :: a13 :: a14 :: some (vJ x) :: none :: r) st M) : Z own cc mL rt d F pc (a0 :: a1 :: a2 :: a3 :: a4 :: a5 :: a6 :: a7 :: a8 :: a9 :: a10 :: a11 :: a12 :: a13 :: a14 :: b :: b2 :: r) (vJ x :: st) M :=
  z_pure (lv2 := a0 :: a1 :: a2 :: a3 :: a4 :: a5 :: a6 :: a7 :: a8 :: a9 :: a10 :: a11 :: a12 :: a13 :: a14 :: some (vJ x) :: none :: r) (fun ad hx hb hl hn k => lv_lstore hx hb hd hl (Nat.lt_of_lt_of_le (by simp only [List.length_cons]; omega) hn) rfl (fun ls2 h => k ls2 (zl_set2 (i := 15) (v := vJ x) (lv := a0 :: a1 :: a2 :: a3 :: a4 :: a5 :: a6 :: a7 :: a8 :: a9 :: a10 :: a11 :: a12 :: a13 :: a14 :: b :: b2 :: r) (fun j hj => by have e : j = 14 := (by omega); subst e; exact h2) h))) (by simp) k
theorem z_iinc_15 {x n : Int} {a0 a1 a2 a3 a4 a5 a6 a7 a8 a9 a10 a11 a12 a13 a14 : Option zV} {r : List (Option zV)} (h2 : zn2 a14 = true) (hd : decode cc pc = .ok (.iinc 15 n, 3)) (k : Z own cc mL rt d F (pc + 3) (a0 :: a1 :: a2 :: a3 :: a4 :: a5 :: a6 :: a7 :: a8 :: a9 :: a10 :: a11 :: a12 :: a13 :: a14 :: some (vI (x + n)) :: r) st M) : Z own cc mL rt d F pc (a0 :: a1 :: a2 :: a3 :: a4 :: a5 :: a6 :: a7 :: a8 :: a9 :: a10 :: a11 :: a12 :: a13 :: a14 :: some (vI x) :: r) st M :=
  z_pure (lv2 := a0 :: a1 :: a2 :: a3 :: a4 :: a5 :: a6 :: a7 :: a8 :: a9 :: a10 :: a11 :: a12 :: a13 :: a14 :: some (vI (x + n)) :: r) (fun ad hx hb hl hn k => by
    obtain ⟨kk, hkk⟩ := List.getElem?_of_mem (zlv_mem (ad := ad) (a0 :: a1 :: a2 :: a3 :: a4 :: a5 :: a6 :: a7 :: a8 :: a9 :: a10 :: a11 :: a12 :: a13 :: a14 :: some (vI x) :: r) 0 15 (vI x) rfl)
    exact lv_iinc (v := Int32.ofInt (x + n)) hx hb hd hl (k := kk) hkk (Int32.ofInt_add _ _).symm (Nat.lt_of_lt_of_le (by simp only [List.length_cons]; omega) hn) rfl (fun ls2 h => k ls2 (zl_set (i := 0 + 15) (v := vI (x + n)) (lv := a0 :: a1 :: a2 :: a3 :: a4 :: a5 :: a6 :: a7 :: a8 :: a9 :: a10 :: a11 :: a12 :: a13 :: a14 :: some (vI x) :: r) (fun j hj => by have e : j = 14 := (by omega); subst e; exact h2) h))) (by simp) k
theorem z_icmp_eq {x y off : Int} {tgt : Nat} (hx : -2147483648 ≤ x ∧ x < 2147483648) (hy : -2147483648 ≤ y ∧ y < 2147483648) (hd : decode cc pc = .ok (.if_icmp .eq off, 3)) (ht : (pc : Int) + off = (tgt : Int)) (kt : x = y → Z own cc mL rt d F tgt lv st M) (kf : ¬ (x = y) → Z own cc mL rt d F (pc + 3) lv st M) : Z own cc mL rt d F pc lv (vI y :: vI x :: st) M := by
  intro p l e R s m args below meth c D ct ad A H locs ls hE hl hn hP hD hS
  exact lv_icmp_eq hE.1 hE.2.1 hd ht (fun h => kt ((zi_eq hx hy).mp h) p l e R s m args below meth c D ct ad A H locs ls hE hl hn hP hD hS) (fun h => kf (fun q => h ((zi_eq hx hy).mpr q)) p l e R s m args below meth c D ct ad A H locs ls hE hl hn hP hD hS)
theorem z_if_eq {x off : Int} {tgt : Nat} (hx : -2147483648 ≤ x ∧ x < 2147483648) (hd : decode cc pc = .ok (.ifCond .eq off, 3)) (ht : (pc : Int) + off = (tgt : Int)) (kt : x = 0 → Z own cc mL rt d F tgt lv st M) (kf : ¬ (x = 0) → Z own cc mL rt d F (pc + 3) lv st M) : Z own cc mL rt d F pc lv (vI x :: st) M := by
  have hy : -2147483648 ≤ (0 : Int) ∧ (0 : Int) < 2147483648 := by decide
  intro p l e R s m args below meth c D ct ad A H locs ls hE hl hn hP hD hS
  exact lv_if_eq hE.1 hE.2.1 hd ht (fun h => kt ((zi_eq hx hy).mp h) p l e R s m args below meth c D ct ad A H locs ls hE hl hn hP hD hS) (fun h => kf (fun q => h ((zi_eq hx hy).mpr q)) p l e R s m args below meth c D ct ad A H locs ls hE hl hn hP hD hS)
theorem zl_le {x y : Int} (hx : -9223372036854775808 ≤ x ∧ x < 9223372036854775808) (hy : -9223372036854775808 ≤ y ∧ y < 9223372036854775808) : Int64.ofInt x ≤ Int64.ofInt y ↔ x ≤ y := by rw [Int64.le_iff_toInt_le, zl_r hx, zl_r hy]
theorem z_lcmp_eq {x y off : Int} {tgt : Nat} (hx : -9223372036854775808 ≤ x ∧ x < 9223372036854775808) (hy : -9223372036854775808 ≤ y ∧ y < 9223372036854775808) (hd0 : decode cc pc = .ok (.lcmp, 1)) (hd : decode cc (pc + 1) = .ok (.ifCond .eq off, 3)) (ht : ((pc + 1 : Nat) : Int) + off = (tgt : Int)) (kt : x = y → Z own cc mL rt d F tgt lv st M) (kf : ¬ (x = y) → Z own cc mL rt d F (pc + 1 + 3) lv st M) : Z own cc mL rt d F pc lv (vJ y :: vJ x :: st) M := by
  intro p l e R s m args below meth c D ct ad A H locs ls hE hl hn hP hD hS
  exact W.lcmp hE.1 hE.2.1 hd0 (lv_if_eq hE.1 hE.2.1 hd ht (fun h => kt (((lg_cmp_eq _ _).trans (zl_eq hx hy)).mp h) p l e R s m args below meth c D ct ad A H locs ls hE hl hn hP hD hS) (fun h => kf (fun q => h (((lg_cmp_eq _ _).trans (zl_eq hx hy)).mpr q)) p l e R s m args below meth c D ct ad A H locs ls hE hl hn hP hD hS))
theorem z_icmp_ne {x y off : Int} {tgt : Nat} (hx : -2147483648 ≤ x ∧ x < 2147483648) (hy : -2147483648 ≤ y ∧ y < 2147483648) (hd : decode cc pc = .ok (.if_icmp .ne off, 3)) (ht : (pc : Int) + off = (tgt : Int)) (kt : ¬ x = y → Z own cc mL rt d F tgt lv st M) (kf : x = y → Z own cc mL rt d F (pc + 3) lv st M) : Z own cc mL rt d F pc lv (vI y :: vI x :: st) M := by
  intro p l e R s m args below meth c D ct ad A H locs ls hE hl hn hP hD hS
  exact lv_icmp_ne hE.1 hE.2.1 hd ht (fun h => kt ((not_congr (zi_eq hx hy)).mp h) p l e R s m args below meth c D ct ad A H locs ls hE hl hn hP hD hS) (fun h => kf ((zi_eq hx hy).mp h) p l e R s m args below meth c D ct ad A H locs ls hE hl hn hP hD hS)
theorem z_if_ne {x off : Int} {tgt : Nat} (hx : -2147483648 ≤ x ∧ x < 2147483648) (hd : decode cc pc = .ok (.ifCond .ne off, 3)) (ht : (pc : Int) + off = (tgt : Int)) (kt : ¬ x = 0 → Z own cc mL rt d F tgt lv st M) (kf : x = 0 → Z own cc mL rt d F (pc + 3) lv st M) : Z own cc mL rt d F pc lv (vI x :: st) M := by
  have hy : -2147483648 ≤ (0 : Int) ∧ (0 : Int) < 2147483648 := by decide
  intro p l e R s m args below meth c D ct ad A H locs ls hE hl hn hP hD hS
  exact lv_if_ne hE.1 hE.2.1 hd ht (fun h => kt ((not_congr (zi_eq hx hy)).mp h) p l e R s m args below meth c D ct ad A H locs ls hE hl hn hP hD hS) (fun h => kf ((zi_eq hx hy).mp h) p l e R s m args below meth c D ct ad A H locs ls hE hl hn hP hD hS)
theorem z_lcmp_ne {x y off : Int} {tgt : Nat} (hx : -9223372036854775808 ≤ x ∧ x < 9223372036854775808) (hy : -9223372036854775808 ≤ y ∧ y < 9223372036854775808) (hd0 : decode cc pc = .ok (.lcmp, 1)) (hd : decode cc (pc + 1) = .ok (.ifCond .ne off, 3)) (ht : ((pc + 1 : Nat) : Int) + off = (tgt : Int)) (kt : ¬ x = y → Z own cc mL rt d F tgt lv st M) (kf : x = y → Z own cc mL rt d F (pc + 1 + 3) lv st M) : Z own cc mL rt d F pc lv (vJ y :: vJ x :: st) M := by
  intro p l e R s m args below meth c D ct ad A H locs ls hE hl hn hP hD hS
  exact W.lcmp hE.1 hE.2.1 hd0 (lv_if_ne hE.1 hE.2.1 hd ht (fun h => kt ((not_congr ((lg_cmp_eq _ _).trans (zl_eq hx hy))).mp h) p l e R s m args below meth c D ct ad A H locs ls hE hl hn hP hD hS) (fun h => kf (((lg_cmp_eq _ _).trans (zl_eq hx hy)).mp h) p l e R s m args below meth c D ct ad A H locs ls hE hl hn hP hD hS))
theorem z_icmp_lt {x y off : Int} {tgt : Nat} (hx : -2147483648 ≤ x ∧ x < 2147483648) (hy : -2147483648 ≤ y ∧ y < 2147483648) (hd : decode cc pc = .ok (.if_icmp .lt off, 3)) (ht : (pc : Int) + off = (tgt : Int)) (kt : x < y → Z own cc mL rt d F tgt lv st M) (kf : ¬ (x < y) → Z own cc mL rt d F (pc + 3) lv st M) : Z own cc mL rt d F pc lv (vI y :: vI x :: st) M := by
  intro p l e R s m args below meth c D ct ad A H locs ls hE hl hn hP hD hS
  exact lv_icmp_lt hE.1 hE.2.1 hd ht (fun h => kt ((zi_lt hx hy).mp h) p l e R s m args below meth c D ct ad A H locs ls hE hl hn hP hD hS) (fun h => kf (fun q => h ((zi_lt hx hy).mpr q)) p l e R s m args below meth c D ct ad A H locs ls hE hl hn hP hD hS)
theorem z_if_lt {x off : Int} {tgt : Nat} (hx : -2147483648 ≤ x ∧ x < 2147483648) (hd : decode cc pc = .ok (.ifCond .lt off, 3)) (ht : (pc : Int) + off = (tgt : Int)) (kt : x < 0 → Z own cc mL rt d F tgt lv st M) (kf : ¬ (x < 0) → Z own cc mL rt d F (pc + 3) lv st M) : Z own cc mL rt d F pc lv (vI x :: st) M := by
  have hy : -2147483648 ≤ (0 : Int) ∧ (0 : Int) < 2147483648 := by decide
  intro p l e R s m args below meth c D ct ad A H locs ls hE hl hn hP hD hS
  exact lv_if_lt hE.1 hE.2.1 hd ht (fun h => kt ((zi_lt hx hy).mp h) p l e R s m args below meth c D ct ad A H locs ls hE hl hn hP hD hS) (fun h => kf (fun q => h ((zi_lt hx hy).mpr q)) p l e R s m args below meth c D ct ad A H locs ls hE hl hn hP hD hS)
theorem z_lcmp_lt {x y off : Int} {tgt : Nat} (hx : -9223372036854775808 ≤ x ∧ x < 9223372036854775808) (hy : -9223372036854775808 ≤ y ∧ y < 9223372036854775808) (hd0 : decode cc pc = .ok (.lcmp, 1)) (hd : decode cc (pc + 1) = .ok (.ifCond .lt off, 3)) (ht : ((pc + 1 : Nat) : Int) + off = (tgt : Int)) (kt : x < y → Z own cc mL rt d F tgt lv st M) (kf : ¬ (x < y) → Z own cc mL rt d F (pc + 1 + 3) lv st M) : Z own cc mL rt d F pc lv (vJ y :: vJ x :: st) M := by
  intro p l e R s m args below meth c D ct ad A H locs ls hE hl hn hP hD hS
  exact W.lcmp hE.1 hE.2.1 hd0 (lv_if_lt hE.1 hE.2.1 hd ht (fun h => kt (((lg_cmp_lt _ _).trans (zl_lt hx hy)).mp h) p l e R s m args below meth c D ct ad A H locs ls hE hl hn hP hD hS) (fun h => kf (fun q => h (((lg_cmp_lt _ _).trans (zl_lt hx hy)).mpr q)) p l e R s m args below meth c D ct ad A H locs ls hE hl hn hP hD hS))
theorem z_icmp_ge {x y off : Int} {tgt : Nat} (hx : -2147483648 ≤ x ∧ x < 2147483648) (hy : -2147483648 ≤ y ∧ y < 2147483648) (hd : decode cc pc = .ok (.if_icmp .ge off, 3)) (ht : (pc : Int) + off = (tgt : Int)) (kt : y ≤ x → Z own cc mL rt d F tgt lv st M) (kf : ¬ (y ≤ x) → Z own cc mL rt d F (pc + 3) lv st M) : Z own cc mL rt d F pc lv (vI y :: vI x :: st) M := by
  intro p l e R s m args below meth c D ct ad A H locs ls hE hl hn hP hD hS
  exact lv_icmp_ge hE.1 hE.2.1 hd ht (fun h => kt ((zi_le hy hx).mp h) p l e R s m args below meth c D ct ad A H locs ls hE hl hn hP hD hS) (fun h => kf (fun q => h ((zi_le hy hx).mpr q)) p l e R s m args below meth c D ct ad A H locs ls hE hl hn hP hD hS)
theorem z_if_ge {x off : Int} {tgt : Nat} (hx : -2147483648 ≤ x ∧ x < 2147483648) (hd : decode cc pc = .ok (.ifCond .ge off, 3)) (ht : (pc : Int) + off = (tgt : Int)) (kt : 0 ≤ x → Z own cc mL rt d F tgt lv st M) (kf : ¬ (0 ≤ x) → Z own cc mL rt d F (pc + 3) lv st M) : Z own cc mL rt d F pc lv (vI x :: st) M := by
  have hy : -2147483648 ≤ (0 : Int) ∧ (0 : Int) < 2147483648 := by decide
  intro p l e R s m args below meth c D ct ad A H locs ls hE hl hn hP hD hS
  exact lv_if_ge hE.1 hE.2.1 hd ht (fun h => kt ((zi_le hy hx).mp h) p l e R s m args below meth c D ct ad A H locs ls hE hl hn hP hD hS) (fun h => kf (fun q => h ((zi_le hy hx).mpr q)) p l e R s m args below meth c D ct ad A H locs ls hE hl hn hP hD hS)
theorem z_lcmp_ge {x y off : Int} {tgt : Nat} (hx : -9223372036854775808 ≤ x ∧ x < 9223372036854775808) (hy : -9223372036854775808 ≤ y ∧ y < 9223372036854775808) (hd0 : decode cc pc = .ok (.lcmp, 1)) (hd : decode cc (pc + 1) = .ok (.ifCond .ge off, 3)) (ht : ((pc + 1 : Nat) : Int) + off = (tgt : Int)) (kt : y ≤ x → Z own cc mL rt d F tgt lv st M) (kf : ¬ (y ≤ x) → Z own cc mL rt d F (pc + 1 + 3) lv st M) : Z own cc mL rt d F pc lv (vJ y :: vJ x :: st) M := by
  intro p l e R s m args below meth c D ct ad A H locs ls hE hl hn hP hD hS
  exact W.lcmp hE.1 hE.2.1 hd0 (lv_if_ge hE.1 hE.2.1 hd ht (fun h => kt (((lg_cmp_ge _ _).trans (zl_le hy hx)).mp h) p l e R s m args below meth c D ct ad A H locs ls hE hl hn hP hD hS) (fun h => kf (fun q => h (((lg_cmp_ge _ _).trans (zl_le hy hx)).mpr q)) p l e R s m args below meth c D ct ad A H locs ls hE hl hn hP hD hS))
theorem z_icmp_gt {x y off : Int} {tgt : Nat} (hx : -2147483648 ≤ x ∧ x < 2147483648) (hy : -2147483648 ≤ y ∧ y < 2147483648) (hd : decode cc pc = .ok (.if_icmp .gt off, 3)) (ht : (pc : Int) + off = (tgt : Int)) (kt : y < x → Z own cc mL rt d F tgt lv st M) (kf : ¬ (y < x) → Z own cc mL rt d F (pc + 3) lv st M) : Z own cc mL rt d F pc lv (vI y :: vI x :: st) M := by
  intro p l e R s m args below meth c D ct ad A H locs ls hE hl hn hP hD hS
  exact lv_icmp_gt hE.1 hE.2.1 hd ht (fun h => kt ((zi_lt hy hx).mp h) p l e R s m args below meth c D ct ad A H locs ls hE hl hn hP hD hS) (fun h => kf (fun q => h ((zi_lt hy hx).mpr q)) p l e R s m args below meth c D ct ad A H locs ls hE hl hn hP hD hS)
theorem z_if_gt {x off : Int} {tgt : Nat} (hx : -2147483648 ≤ x ∧ x < 2147483648) (hd : decode cc pc = .ok (.ifCond .gt off, 3)) (ht : (pc : Int) + off = (tgt : Int)) (kt : 0 < x → Z own cc mL rt d F tgt lv st M) (kf : ¬ (0 < x) → Z own cc mL rt d F (pc + 3) lv st M) : Z own cc mL rt d F pc lv (vI x :: st) M := by
  have hy : -2147483648 ≤ (0 : Int) ∧ (0 : Int) < 2147483648 := by decide
  intro p l e R s m args below meth c D ct ad A H locs ls hE hl hn hP hD hS
  exact lv_if_gt hE.1 hE.2.1 hd ht (fun h => kt ((zi_lt hy hx).mp h) p l e R s m args below meth c D ct ad A H locs ls hE hl hn hP hD hS) (fun h => kf (fun q => h ((zi_lt hy hx).mpr q)) p l e R s m args below meth c D ct ad A H locs ls hE hl hn hP hD hS)
theorem z_lcmp_gt {x y off : Int} {tgt : Nat} (hx : -9223372036854775808 ≤ x ∧ x < 9223372036854775808) (hy : -9223372036854775808 ≤ y ∧ y < 9223372036854775808) (hd0 : decode cc pc = .ok (.lcmp, 1)) (hd : decode cc (pc + 1) = .ok (.ifCond .gt off, 3)) (ht : ((pc + 1 : Nat) : Int) + off = (tgt : Int)) (kt : y < x → Z own cc mL rt d F tgt lv st M) (kf : ¬ (y < x) → Z own cc mL rt d F (pc + 1 + 3) lv st M) : Z own cc mL rt d F pc lv (vJ y :: vJ x :: st) M := by
  intro p l e R s m args below meth c D ct ad A H locs ls hE hl hn hP hD hS
  exact W.lcmp hE.1 hE.2.1 hd0 (lv_if_gt hE.1 hE.2.1 hd ht (fun h => kt (((lg_cmp_gt _ _).trans (zl_lt hy hx)).mp h) p l e R s m args below meth c D ct ad A H locs ls hE hl hn hP hD hS) (fun h => kf (fun q => h (((lg_cmp_gt _ _).trans (zl_lt hy hx)).mpr q)) p l e R s m args below meth c D ct ad A H locs ls hE hl hn hP hD hS))
theorem z_icmp_le {x y off : Int} {tgt : Nat} (hx : -2147483648 ≤ x ∧ x < 2147483648) (hy : -2147483648 ≤ y ∧ y < 2147483648) (hd : decode cc pc = .ok (.if_icmp .le off, 3)) (ht : (pc : Int) + off = (tgt : Int)) (kt : x ≤ y → Z own cc mL rt d F tgt lv st M) (kf : ¬ (x ≤ y) → Z own cc mL rt d F (pc + 3) lv st M) : Z own cc mL rt d F pc lv (vI y :: vI x :: st) M := by
  intro p l e R s m args below meth c D ct ad A H locs ls hE hl hn hP hD hS
  exact lv_icmp_le hE.1 hE.2.1 hd ht (fun h => kt ((zi_le hx hy).mp h) p l e R s m args below meth c D ct ad A H locs ls hE hl hn hP hD hS) (fun h => kf (fun q => h ((zi_le hx hy).mpr q)) p l e R s m args below meth c D ct ad A H locs ls hE hl hn hP hD hS)
theorem z_if_le {x off : Int} {tgt : Nat} (hx : -2147483648 ≤ x ∧ x < 2147483648) (hd : decode cc pc = .ok (.ifCond .le off, 3)) (ht : (pc : Int) + off = (tgt : Int)) (kt : x ≤ 0 → Z own cc mL rt d F tgt lv st M) (kf : ¬ (x ≤ 0) → Z own cc mL rt d F (pc + 3) lv st M) : Z own cc mL rt d F pc lv (vI x :: st) M := by
  have hy : -2147483648 ≤ (0 : Int) ∧ (0 : Int) < 2147483648 := by decide
  intro p l e R s m args below meth c D ct ad A H locs ls hE hl hn hP hD hS
  exact lv_if_le hE.1 hE.2.1 hd ht (fun h => kt ((zi_le hx hy).mp h) p l e R s m args below meth c D ct ad A H locs ls hE hl hn hP hD hS) (fun h => kf (fun q => h ((zi_le hx hy).mpr q)) p l e R s m args below meth c D ct ad A H locs ls hE hl hn hP hD hS)
theorem z_lcmp_le {x y off : Int} {tgt : Nat} (hx : -9223372036854775808 ≤ x ∧ x < 9223372036854775808) (hy : -9223372036854775808 ≤ y ∧ y < 9223372036854775808) (hd0 : decode cc pc = .ok (.lcmp, 1)) (hd : decode cc (pc + 1) = .ok (.ifCond .le off, 3)) (ht : ((pc + 1 : Nat) : Int) + off = (tgt : Int)) (kt : x ≤ y → Z own cc mL rt d F tgt lv st M) (kf : ¬ (x ≤ y) → Z own cc mL rt d F (pc + 1 + 3) lv st M) : Z own cc mL rt d F pc lv (vJ y :: vJ x :: st) M := by
  intro p l e R s m args below meth c D ct ad A H locs ls hE hl hn hP hD hS
  exact W.lcmp hE.1 hE.2.1 hd0 (lv_if_le hE.1 hE.2.1 hd ht (fun h => kt (((lg_cmp_le _ _).trans (zl_le hx hy)).mp h) p l e R s m args below meth c D ct ad A H locs ls hE hl hn hP hD hS) (fun h => kf (fun q => h (((lg_cmp_le _ _).trans (zl_le hx hy)).mpr q)) p l e R s m args below meth c D ct ad A H locs ls hE hl hn hP hD hS))
theorem z_tsOut {x dflt lo hi : Int} {offs : Array Int} {len tgt : Nat} (hx : -2147483648 ≤ x ∧ x < 2147483648) (hd : decode cc pc = .ok (.tableswitch dflt lo hi offs, len)) (h : x < lo ∨ hi < x) (ht : (pc : Int) + dflt = (tgt : Int)) (k : Z own cc mL rt d F tgt lv st M) : Z own cc mL rt d F pc lv (vI x :: st) M :=
  z_pure0 (fun ad hx1 hb _ k => lv_tableOut hx1 hb hd (by rw [zi_r hx]; exact h) ht k) k
theorem z_tsIn {x dflt lo hi off : Int} {offs : Array Int} {len tgt : Nat} (hx : -2147483648 ≤ x ∧ x < 2147483648) (hd : decode cc pc = .ok (.tableswitch dflt lo hi offs, len)) (h1 : ¬ x < lo) (h2 : ¬ hi < x) (ho : offs[(x - lo).toNat]? = some off) (ht : (pc : Int) + off = (tgt : Int)) (k : Z own cc mL rt d F tgt lv st M) : Z own cc mL rt d F pc lv (vI x :: st) M :=
  z_pure0 (fun ad hx1 hb _ k => lv_tableIn hx1 hb hd (by rw [zi_r hx]; exact h1) (by rw [zi_r hx]; exact h2) (by rw [zi_r hx]; exact ho) ht k) k
theorem z_lookup {x dflt off : Int} {ps : Array (Int × Int)} {len tgt : Nat} (hx : -2147483648 ≤ x ∧ x < 2147483648) (hd : decode cc pc = .ok (.lookupswitch dflt ps, len)) (hp : (ps.toList.zip (ps.toList.drop 1)).all (fun (a, next) => a.1 < next.1) = true) (ho : Op.lookupswitch.offset ps.toList dflt x = off) (ht : (pc : Int) + off = (tgt : Int)) (k : Z own cc mL rt d F tgt lv st M) : Z own cc mL rt d F pc lv (vI x :: st) M :=
  z_pure0 (fun ad hx1 hb _ k => lv_lookup hx1 hb hd hp (by rw [zi_r hx]; exact ho) ht k) k
end
end
section
abbrev zKT (k t : Nat) : Prop := k < 93 ∧ zT k = t
def zkt (n : Nat) (ty : FieldType) : Prop := match n with
  | 0 => ty = .int
  | 1 => ty = .long
  | 2 => ty = .boolean
  | _ => True
/-- entry idx of own's pool is field j of the class t -/
def zFl (own : String) (idx t j : Nat) (ji : Int) : Prop := ∃ (C : String) (T : u_T) (N : Nat) (ty : Nat → FieldType), vwCl[t]? = some (C, T, N) ∧ j < N ∧ (zfk t).length = N ∧ Cond.fieldLink own idx C (T j).2.1 (T j).2.2.1 ∈ zt ∧ (T j).1 = C ∧ (∀ w ∈ u_ws C T N, w ∈ zt) ∧ t < 8 ∧ (∀ k, k < N → parseFieldDescriptor (T k).2.2.1 = some (ty k)) ∧ (∀ a, a < N → ∀ b, b < N → a ≠ b → (T a).2.1 ≠ (T b).2.1) ∧ (T j).2.2.2 = ((zfk t).getD j 9 == 3) ∧ zkt ((zfk t).getD j 9) (ty j) ∧ (j : Int) = ji
theorem zN_lt : ∀ k, k < 93 → zN k < 2147483648 := by decide +kernel
section
variable {own : String} {cc : ByteArray} {mL : Nat} {rt : Option FieldType} {d : Nat} {F : zF} {pc : Nat} {lv lv2 : List (Option zV)} {st : List zV} {M : zM}
theorem z_getI {k t j idx : Nat} {ji : Int} (hF : zFl own idx t j ji) (hk : zKT k t) (hj : ((zfk t).getD j 9 == 0 || (zfk t).getD j 9 == 2) = true) (hd : decode cc pc = .ok (.getfield idx, 3)) (kk : Z own cc mL rt d F (pc + 3) lv (vI (M k ji) :: st) M) : Z own cc mL rt d F pc lv (vR k :: st) M := by
  intro p l e R s m args below meth c D ct ad A H locs ls hE hl hn hP hD hS
  obtain ⟨C, T, N, ty, h1, h2, h3, h4, h5, h6, h7, h8, h9, h10, h11, rfl⟩ := hF
  have hg := zws_get (ct := ct) (ad := ad) (M := M) hk.1
  rw [zc_o hk.2 h7] at hg
  refine va_get hE.1 hE.2.1 hE.2.2.2.2.1 h6 hE.2.2.2.1 hE.2.2.2.2.2.1 hP k hg h1 j h2 (hE.2.2.2.2.1 _ h4) (fun x hx => by rw [h5] at hx; exact hx) (v := .int (Int32.ofInt (M k j))) ?_ hd (kk p l e R s m args below meth c D ct ad A H locs ls hE hl hn hP hD hS)
  rw [zfs_get (by rw [h3]; exact h2)]
  unfold zfv
  rw [hk.2]
  split
  · rename_i e; rw [e] at hj; cases hj
  · rename_i e; rw [e] at hj; cases hj
  · rfl
theorem z_getJ {k t j idx : Nat} {ji : Int} (hF : zFl own idx t j ji) (hk : zKT k t) (hj : (zfk t).getD j 9 = 1) (hd : decode cc pc = .ok (.getfield idx, 3)) (kk : Z own cc mL rt d F (pc + 3) lv (vJ (M k ji) :: st) M) : Z own cc mL rt d F pc lv (vR k :: st) M := by
  intro p l e R s m args below meth c D ct ad A H locs ls hE hl hn hP hD hS
  obtain ⟨C, T, N, ty, h1, h2, h3, h4, h5, h6, h7, h8, h9, h10, h11, rfl⟩ := hF
  have hg := zws_get (ct := ct) (ad := ad) (M := M) hk.1
  rw [zc_o hk.2 h7] at hg
  refine va_get hE.1 hE.2.1 hE.2.2.2.2.1 h6 hE.2.2.2.1 hE.2.2.2.2.2.1 hP k hg h1 j h2 (hE.2.2.2.2.1 _ h4) (fun x hx => by rw [h5] at hx; exact hx) (v := .long (Int64.ofInt (M k j))) ?_ hd (kk p l e R s m args below meth c D ct ad A H locs ls hE hl hn hP hD hS)
  rw [zfs_get (by rw [h3]; exact h2)]
  unfold zfv
  rw [hk.2, hj] <;> rfl
theorem z_getR {k t j idx r : Nat} {ji : Int} (hF : zFl own idx t j ji) (hk : zKT k t) (hj : (zfk t).getD j 9 = 3) (hr : zR k j = r) (hd : decode cc pc = .ok (.getfield idx, 3)) (kk : Z own cc mL rt d F (pc + 3) lv (vR r :: st) M) : Z own cc mL rt d F pc lv (vR k :: st) M := by
  intro p l e R s m args below meth c D ct ad A H locs ls hE hl hn hP hD hS
  subst hr
  obtain ⟨C, T, N, ty, h1, h2, h3, h4, h5, h6, h7, h8, h9, h10, h11, rfl⟩ := hF
  have hg := zws_get (ct := ct) (ad := ad) (M := M) hk.1
  rw [zc_o hk.2 h7] at hg
  refine va_get hE.1 hE.2.1 hE.2.2.2.2.1 h6 hE.2.2.2.1 hE.2.2.2.2.2.1 hP k hg h1 j h2 (hE.2.2.2.2.1 _ h4) (fun x hx => by rw [h5] at hx; exact hx) (v := .ref (ad (zR k j))) ?_ hd (kk p l e R s m args below meth c D ct ad A H locs ls hE hl hn hP hD hS)
  rw [zfs_get (by rw [h3]; exact h2)]
  unfold zfv
  rw [hk.2, hj] <;> rfl

theorem z_putI {k t j idx : Nat} {ji x : Int} (hF : zFl own idx t j ji) (hk : zKT k t) (hj : (zfk t).getD j 9 = 0) (hd : decode cc pc = .ok (.putfield idx, 3)) (kk : Z own cc mL rt d F (pc + 3) lv st (zput M k ji x)) : Z own cc mL rt d F pc lv (vI x :: vR k :: st) M := by
  intro p l e R s m args below meth c D ct ad A H locs ls hE hl hn hP hD hS
  obtain ⟨C, T, N, ty, h1, h2, h3, h4, h5, h6, h7, h8, h9, h10, h11, rfl⟩ := hF
  rw [hj] at h10 h11
  have hg := zws_get (ct := ct) (ad := ad) (M := M) hk.1
  rw [zc_o hk.2 h7] at hg
  refine va_put hE.1 hE.2.1 hE.2.2.2.2.1 h6 ty h8 h9 hE.2.2.2.1 hE.2.2.2.2.2.1 hP hD hS k hg h1 j h2 (hE.2.2.2.2.1 _ h4) (fun x hx => by rw [h5] at hx; exact hx) h10 (ty := .int) (v := .int (Int32.ofInt x)) (by rw [h8 j h2]; exact congrArg some h11) rfl rfl (by simp; rw [h3]; exact h2) hd (fun H1 locs1 hP1 hD1 hS1 => ?_)
  have W1 : (zws ct ad M).set k (ad k, .inr (t, ((List.range (zfk t).length).map (zfv ad M k)).set j (.int (Int32.ofInt x)))) = zws ct ad (zput M k j x) := by
    refine zws_put ?_
    rw [zc_o hk.2 h7, zfs_set (v := x)]
    unfold zfv
    rw [hk.2, hj, zput_eq] <;> rfl
  rw [W1] at hP1 hD1
  exact kk p l e R s m args below meth c D ct ad A H1 locs1 ls hE hl hn hP1 hD1 hS1

theorem z_putJ {k t j idx : Nat} {ji x : Int} (hF : zFl own idx t j ji) (hk : zKT k t) (hj : (zfk t).getD j 9 = 1) (hd : decode cc pc = .ok (.putfield idx, 3)) (kk : Z own cc mL rt d F (pc + 3) lv st (zput M k ji x)) : Z own cc mL rt d F pc lv (vJ x :: vR k :: st) M := by
  intro p l e R s m args below meth c D ct ad A H locs ls hE hl hn hP hD hS
  obtain ⟨C, T, N, ty, h1, h2, h3, h4, h5, h6, h7, h8, h9, h10, h11, rfl⟩ := hF
  rw [hj] at h10 h11
  have hg := zws_get (ct := ct) (ad := ad) (M := M) hk.1
  rw [zc_o hk.2 h7] at hg
  refine va_put hE.1 hE.2.1 hE.2.2.2.2.1 h6 ty h8 h9 hE.2.2.2.1 hE.2.2.2.2.2.1 hP hD hS k hg h1 j h2 (hE.2.2.2.2.1 _ h4) (fun x hx => by rw [h5] at hx; exact hx) h10 (ty := .long) (v := .long (Int64.ofInt x)) (by rw [h8 j h2]; exact congrArg some h11) rfl rfl (by simp; rw [h3]; exact h2) hd (fun H1 locs1 hP1 hD1 hS1 => ?_)
  have W1 : (zws ct ad M).set k (ad k, .inr (t, ((List.range (zfk t).length).map (zfv ad M k)).set j (.long (Int64.ofInt x)))) = zws ct ad (zput M k j x) := by
    refine zws_put ?_
    rw [zc_o hk.2 h7, zfs_set (v := x)]
    unfold zfv
    rw [hk.2, hj, zput_eq] <;> rfl
  rw [W1] at hP1 hD1
  exact kk p l e R s m args below meth c D ct ad A H1 locs1 ls hE hl hn hP1 hD1 hS1

theorem z_putZ {k t j idx : Nat} {ji x : Int} (hx : x = 0 ∨ x = 1) (hF : zFl own idx t j ji) (hk : zKT k t) (hj : (zfk t).getD j 9 = 2) (hd : decode cc pc = .ok (.putfield idx, 3)) (kk : Z own cc mL rt d F (pc + 3) lv st (zput M k ji x)) : Z own cc mL rt d F pc lv (vI x :: vR k :: st) M := by
  intro p l e R s m args below meth c D ct ad A H locs ls hE hl hn hP hD hS
  obtain ⟨C, T, N, ty, h1, h2, h3, h4, h5, h6, h7, h8, h9, h10, h11, rfl⟩ := hF
  rw [hj] at h10 h11
  have hg := zws_get (ct := ct) (ad := ad) (M := M) hk.1
  rw [zc_o hk.2 h7] at hg
  refine va_put hE.1 hE.2.1 hE.2.2.2.2.1 h6 ty h8 h9 hE.2.2.2.1 hE.2.2.2.2.2.1 hP hD hS k hg h1 j h2 (hE.2.2.2.2.1 _ h4) (fun x hx => by rw [h5] at hx; exact hx) h10 (ty := .boolean) (v := .int (Int32.ofInt x)) (by rw [h8 j h2]; exact congrArg some h11) (by rcases hx with rfl | rfl <;> rfl) (by rcases hx with rfl | rfl <;> rfl) (by simp; rw [h3]; exact h2) hd (fun H1 locs1 hP1 hD1 hS1 => ?_)
  have W1 : (zws ct ad M).set k (ad k, .inr (t, ((List.range (zfk t).length).map (zfv ad M k)).set j (.int (Int32.ofInt x)))) = zws ct ad (zput M k j x) := by
    refine zws_put ?_
    rw [zc_o hk.2 h7, zfs_set (v := x)]
    unfold zfv
    rw [hk.2, hj, zput_eq] <;> rfl
  rw [W1] at hP1 hD1
  exact kk p l e R s m args below meth c D ct ad A H1 locs1 ls hE hl hn hP1 hD1 hS1

theorem z_iald {k n : Nat} {x : Int} (hk : zKT k 9) (hN : zN k = n) (hx : 0 ≤ x ∧ x < (n : Int)) (hd : decode cc pc = .ok (.iaload, 1)) (kk : Z own cc mL rt d F (pc + 1) lv (vI (M k x) :: st) M) : Z own cc mL rt d F pc lv (vI x :: vR k :: st) M := by
  intro p l e R s m args below meth c D ct ad A H locs ls hE hl hn hP hD hS
  subst hN
  have hlt := zN_lt k hk.1
  have hg := zws_get (ct := ct) (ad := ad) (M := M) hk.1
  rw [zc_9 hk.2] at hg
  refine va_iald hE.1 hE.2.1 hE.2.2.2.2.2.1 hP k 1 hg rfl (zi_in hx hlt) hd ?_
  have := kk p l e R s m args below meth c D ct ad A H locs ls hE hl hn hP hD hS
  rw [zi_nat hx hlt, Int.toNat_of_nonneg hx.1]
  exact this
theorem z_bald {k n : Nat} {x : Int} (hk : zKT k 8) (hN : zN k = n) (hx : 0 ≤ x ∧ x < (n : Int)) (hd : decode cc pc = .ok (.baload, 1)) (kk : Z own cc mL rt d F (pc + 1) lv (vI (M k x) :: st) M) : Z own cc mL rt d F pc lv (vI x :: vR k :: st) M := by
  intro p l e R s m args below meth c D ct ad A H locs ls hE hl hn hP hD hS
  subst hN
  have hlt := zN_lt k hk.1
  have hg := zws_get (ct := ct) (ad := ad) (M := M) hk.1
  rw [zc_8 hk.2] at hg
  refine va_bald hE.1 hE.2.1 hE.2.2.2.2.2.1 hP k 0 hg rfl (zi_in hx hlt) hd ?_
  have := kk p l e R s m args below meth c D ct ad A H locs ls hE hl hn hP hD hS
  rw [zi_nat hx hlt, Int.toNat_of_nonneg hx.1]
  exact this
theorem z_lald {k n : Nat} {x : Int} (hk : zKT k 10) (hN : zN k = n) (hx : 0 ≤ x ∧ x < (n : Int)) (hd : decode cc pc = .ok (.laload, 1)) (kk : Z own cc mL rt d F (pc + 1) lv (vJ (M k x) :: st) M) : Z own cc mL rt d F pc lv (vI x :: vR k :: st) M := by
  intro p l e R s m args below meth c D ct ad A H locs ls hE hl hn hP hD hS
  subst hN
  have hlt := zN_lt k hk.1
  have hg := zws_get (ct := ct) (ad := ad) (M := M) hk.1
  rw [zc_10 hk.2] at hg
  refine va_lald hE.1 hE.2.1 hE.2.2.2.2.2.1 hP k 2 hg rfl (zi_in hx hlt) hd ?_
  have := kk p l e R s m args below meth c D ct ad A H locs ls hE hl hn hP hD hS
  rw [zi_nat hx hlt, Int.toNat_of_nonneg hx.1]
  exact this
theorem z_aald11 {k n r : Nat} {x : Int} (hk : zKT k 11) (hN : zN k = n) (hx : 0 ≤ x ∧ x < (n : Int)) (hr : zR k x.toNat = r) (hd : decode cc pc = .ok (.aaload, 1)) (kk : Z own cc mL rt d F (pc + 1) lv (vR r :: st) M) : Z own cc mL rt d F pc lv (vI x :: vR k :: st) M := by
  intro p l e R s m args below meth c D ct ad A H locs ls hE hl hn hP hD hS
  subst hN
  subst hr
  have hlt := zN_lt k hk.1
  have hg := zws_get (ct := ct) (ad := ad) (M := M) hk.1
  rw [zc_11 hk.2] at hg
  refine va_aldq hE.1 hE.2.1 hE.2.2.2.2.2.1 hP k 3 hg rfl (zi_in hx hlt) hd ?_
  have := kk p l e R s m args below meth c D ct ad A H locs ls hE hl hn hP hD hS
  rw [zi_nat hx hlt]
  exact this
theorem z_aald12 {k n r : Nat} {x : Int} (hk : zKT k 12) (hN : zN k = n) (hx : 0 ≤ x ∧ x < (n : Int)) (hr : zR k x.toNat = r) (hd : decode cc pc = .ok (.aaload, 1)) (kk : Z own cc mL rt d F (pc + 1) lv (vR r :: st) M) : Z own cc mL rt d F pc lv (vI x :: vR k :: st) M := by
  intro p l e R s m args below meth c D ct ad A H locs ls hE hl hn hP hD hS
  subst hN
  subst hr
  have hlt := zN_lt k hk.1
  have hg := zws_get (ct := ct) (ad := ad) (M := M) hk.1
  rw [zc_12 hk.2] at hg
  refine va_aldq hE.1 hE.2.1 hE.2.2.2.2.2.1 hP k 4 hg rfl (zi_in hx hlt) hd ?_
  have := kk p l e R s m args below meth c D ct ad A H locs ls hE hl hn hP hD hS
  rw [zi_nat hx hlt]
  exact this
theorem z_iast {k n : Nat} {x v : Int} (hk : zKT k 9) (hN : zN k = n) (hx : 0 ≤ x ∧ x < (n : Int)) (hd : decode cc pc = .ok (.iastore, 1)) (kk : Z own cc mL rt d F (pc + 1) lv st (zput M k x v)) : Z own cc mL rt d F pc lv (vI v :: vI x :: vR k :: st) M := by
  intro p l e R s m args below meth c D ct ad A H locs ls hE hl hn hP hD hS
  subst hN
  have hlt := zN_lt k hk.1
  have hg := zws_get (ct := ct) (ad := ad) (M := M) hk.1
  rw [zc_9 hk.2] at hg
  refine va_iast hE.1 hE.2.1 hE.2.2.2.2.2.1 hP hD hS k 1 hg rfl (zi_in hx hlt) hd (fun H1 locs1 hP1 hD1 hS1 => ?_)
  have W1 : (zws ct ad M).set k (ad k, zcell ct ad (zput M k x v) k) = zws ct ad (zput M k x v) := zws_put rfl
  have e1 : upd (fun j : Nat => Int32.ofInt (M k (j : Int))) (Int32.ofInt x).toNatClampNeg (Int32.ofInt v) = fun j : Nat => Int32.ofInt (zput M k x v k (j : Int)) := by
    funext j
    rw [zi_nat hx hlt]
    unfold upd
    by_cases hj : j = x.toNat
    · rw [if_pos hj, hj, Int.toNat_of_nonneg hx.1, zput_eq]
    · rw [if_neg hj, zput_ne2 (by omega)]
  rw [zc_9 hk.2, ← e1] at W1
  rw [W1] at hP1 hD1
  exact kk p l e R s m args below meth c D ct ad A H1 locs1 ls hE hl hn hP1 hD1 hS1
theorem z_bast {k n : Nat} {x v : Int} (hk : zKT k 8) (hN : zN k = n) (hx : 0 ≤ x ∧ x < (n : Int)) (hv : -128 ≤ v ∧ v < 128) (hd : decode cc pc = .ok (.bastore, 1)) (kk : Z own cc mL rt d F (pc + 1) lv st (zput M k x v)) : Z own cc mL rt d F pc lv (vI v :: vI x :: vR k :: st) M := by
  intro p l e R s m args below meth c D ct ad A H locs ls hE hl hn hP hD hS
  subst hN
  have hlt := zN_lt k hk.1
  have hg := zws_get (ct := ct) (ad := ad) (M := M) hk.1
  rw [zc_8 hk.2] at hg
  refine va_bast hE.1 hE.2.1 hE.2.2.2.2.2.1 hP hD hS k 0 hg rfl (zi_in hx hlt) hd (fun H1 locs1 hP1 hD1 hS1 => ?_)
  have W1 : (zws ct ad M).set k (ad k, zcell ct ad (zput M k x v) k) = zws ct ad (zput M k x v) := zws_put rfl
  have e1 : upd (fun j : Nat => Int32.ofInt (M k (j : Int))) (Int32.ofInt x).toNatClampNeg (vp_nar .byte (Int32.ofInt v)) = fun j : Nat => Int32.ofInt (zput M k x v k (j : Int)) := by
    funext j
    rw [zi_nat hx hlt]
    unfold upd
    by_cases hj : j = x.toNat
    · rw [if_pos hj, hj, Int.toNat_of_nonneg hx.1, zput_eq]
      rw [vp_nar_byte, ← Int32.toInt_inj, zi_r (x := v) (by omega)]
      have h3 : v.bmod 256 = v := Int.bmod_eq_of_le (by omega) (by omega)
      simp [h3]
    · rw [if_neg hj, zput_ne2 (by omega)]
  rw [zc_8 hk.2, ← e1] at W1
  rw [W1] at hP1 hD1
  exact kk p l e R s m args below meth c D ct ad A H1 locs1 ls hE hl hn hP1 hD1 hS1
theorem z_last {k n : Nat} {x v : Int} (hk : zKT k 10) (hN : zN k = n) (hx : 0 ≤ x ∧ x < (n : Int)) (hd : decode cc pc = .ok (.lastore, 1)) (kk : Z own cc mL rt d F (pc + 1) lv st (zput M k x v)) : Z own cc mL rt d F pc lv (vJ v :: vI x :: vR k :: st) M := by
  intro p l e R s m args below meth c D ct ad A H locs ls hE hl hn hP hD hS
  subst hN
  have hlt := zN_lt k hk.1
  have hg := zws_get (ct := ct) (ad := ad) (M := M) hk.1
  rw [zc_10 hk.2] at hg
  refine va_last hE.1 hE.2.1 hE.2.2.2.2.2.1 hP hD hS k 2 hg rfl (zi_in hx hlt) hd (fun H1 locs1 hP1 hD1 hS1 => ?_)
  have W1 : (zws ct ad M).set k (ad k, zcell ct ad (zput M k x v) k) = zws ct ad (zput M k x v) := zws_put rfl
  have e1 : vp_updL (fun j : Nat => Int64.ofInt (M k (j : Int))) (Int32.ofInt x).toNatClampNeg (Int64.ofInt v) = fun j : Nat => Int64.ofInt (zput M k x v k (j : Int)) := by
    funext j
    rw [zi_nat hx hlt]
    unfold vp_updL
    by_cases hj : j = x.toNat
    · rw [if_pos hj, hj, Int.toNat_of_nonneg hx.1, zput_eq]
    · rw [if_neg hj, zput_ne2 (by omega)]
  rw [zc_10 hk.2, ← e1] at W1
  rw [W1] at hP1 hD1
  exact kk p l e R s m args below meth c D ct ad A H1 locs1 ls hE hl hn hP1 hD1 hS1
theorem z_alen {k n : Nat} (hk : zKT k 9) (hN : zN k = n) (hd : decode cc pc = .ok (.arraylength, 1)) (kk : Z own cc mL rt d F (pc + 1) lv (vI (n : Int) :: st) M) : Z own cc mL rt d F pc lv (vR k :: st) M := by
  intro p l e R s m args below meth c D ct ad A H locs ls hE hl hn hP hD hS
  subst hN
  have hg := zws_get (ct := ct) (ad := ad) (M := M) hk.1
  rw [zc_9 hk.2] at hg
  refine va_alen hE.1 hE.2.1 hE.2.2.2.2.2.1 hP k 1 hg rfl (v := Int32.ofInt (zN k : Int)) ?_ hd (kk p l e R s m args below meth c D ct ad A H locs ls hE hl hn hP hD hS)
  exact Int32.ofInt_eq_ofNat.symm
def zsf (i : Nat) (x : Int) : Int := zs i x.toNat
theorem z_gets0 {idx : Nat} (hw : Cond.fieldLink own idx "FuelTurns" "PLAN_LEAST" "[I" ∈ zt) (hd : decode cc pc = .ok (.getstatic idx, 3)) (kk : Z own cc mL rt d F (pc + 3) lv (vR 93 :: st) M) : Z own cc mL rt d F pc lv st M := by
  intro p l e R s m args below meth c D ct ad A H locs ls hE hl hn hP hD hS
  exact va_gets hE.1 hE.2.1 hE.2.2.2.2.2.2.1.1.1 hS hE.2.2.2.1 (hE.2.2.2.2.1 _ hw) (fun x h => h) hd (kk p l e R s m args below meth c D ct ad A H locs ls hE hl hn hP hD hS)
theorem z_sald0 {x : Int} (hx : 0 ≤ x ∧ x < 6) (hd : decode cc pc = .ok (.iaload, 1)) (kk : Z own cc mL rt d F (pc + 1) lv (vI (zsf 0 x) :: st) M) : Z own cc mL rt d F pc lv (vI x :: vR 93 :: st) M := by
  intro p l e R s m args below meth c D ct ad A H locs ls hE hl hn hP hD hS
  exact va_ti hE.1 hE.2.1 hE.2.2.2.2.2.2.1.1.2 hS (zi_in hx (by decide)) (by rw [zi_nat (n := 6) hx (by decide)]; rfl) hd (kk p l e R s m args below meth c D ct ad A H locs ls hE hl hn hP hD hS)
theorem z_gets1 {idx : Nat} (hw : Cond.fieldLink own idx "FuelTurns" "PLAN_MOST" "[I" ∈ zt) (hd : decode cc pc = .ok (.getstatic idx, 3)) (kk : Z own cc mL rt d F (pc + 3) lv (vR 94 :: st) M) : Z own cc mL rt d F pc lv st M := by
  intro p l e R s m args below meth c D ct ad A H locs ls hE hl hn hP hD hS
  exact va_gets hE.1 hE.2.1 hE.2.2.2.2.2.2.1.2.1.1 hS hE.2.2.2.1 (hE.2.2.2.2.1 _ hw) (fun x h => h) hd (kk p l e R s m args below meth c D ct ad A H locs ls hE hl hn hP hD hS)
theorem z_sald1 {x : Int} (hx : 0 ≤ x ∧ x < 6) (hd : decode cc pc = .ok (.iaload, 1)) (kk : Z own cc mL rt d F (pc + 1) lv (vI (zsf 1 x) :: st) M) : Z own cc mL rt d F pc lv (vI x :: vR 94 :: st) M := by
  intro p l e R s m args below meth c D ct ad A H locs ls hE hl hn hP hD hS
  exact va_ti hE.1 hE.2.1 hE.2.2.2.2.2.2.1.2.1.2 hS (zi_in hx (by decide)) (by rw [zi_nat (n := 6) hx (by decide)]; rfl) hd (kk p l e R s m args below meth c D ct ad A H locs ls hE hl hn hP hD hS)
theorem z_gets2 {idx : Nat} (hw : Cond.fieldLink own idx "FuelTurns$Warning" "ABOVE" "[I" ∈ zt) (hd : decode cc pc = .ok (.getstatic idx, 3)) (kk : Z own cc mL rt d F (pc + 3) lv (vR 95 :: st) M) : Z own cc mL rt d F pc lv st M := by
  intro p l e R s m args below meth c D ct ad A H locs ls hE hl hn hP hD hS
  exact va_gets hE.1 hE.2.1 hE.2.2.2.2.2.2.1.2.2.1 hS hE.2.2.2.1 (hE.2.2.2.2.1 _ hw) (fun x h => h) hd (kk p l e R s m args below meth c D ct ad A H locs ls hE hl hn hP hD hS)
theorem z_sald2 {x : Int} (hx : 0 ≤ x ∧ x < 6) (hd : decode cc pc = .ok (.iaload, 1)) (kk : Z own cc mL rt d F (pc + 1) lv (vI (zsf 2 x) :: st) M) : Z own cc mL rt d F pc lv (vI x :: vR 95 :: st) M := by
  intro p l e R s m args below meth c D ct ad A H locs ls hE hl hn hP hD hS
  exact va_ti hE.1 hE.2.1 hE.2.2.2.2.2.2.1.2.2.2 hS (zi_in hx (by decide)) (by rw [zi_nat (n := 6) hx (by decide)]; rfl) hd (kk p l e R s m args below meth c D ct ad A H locs ls hE hl hn hP hD hS)
end
end
section
def zrm (d : Nat) : Room := { frames := d, cells := 0, slots := 0, locals := 40 * d }
def zQc (D : va_G) (ct ad : Nat → Nat) (A : Nat → Prop) (Q : Option zV → zM → Prop) : Array Value → State → Outcome → State → Prop := fun _ st o t => (∃ (r : Option zV) (M2 : zM), o = .returned (r.map (zc ad)) ∧ Q r M2 ∧ va_P D vwCl (zws ct ad M2) t.heap) ∧ va_F A st t
def zQ (Q : Option zV → zM → Prop) : zF := (0, 0, fun below args s D ct ad A => MQ below (zQc D ct ad A Q) args s 0 0 A, fun _ _ _ _ => True)
def zPc (av : List zV) (M : zM) (D : va_G) (ct ad : Nat → Nat) (sz : Nat) : Array Value → State → Prop := fun v U => v = (av.map (zc ad)).toArray ∧ U.heap.size = sz ∧ va_P D vwCl (zws ct ad M) U.heap ∧ va_K D vwCl (ztys ct) U ∧ va_D (fun _ => True) (zws ct ad M) ∧ zSt ad (va_A (zws ct ad M) sz) U U.heap
/-- a method's contract: from the memory M, with these arguments, it returns with Q -/
def Call (y : MethodName) (cc : ByteArray) (mL : Nat) (rt : Option FieldType) (d : Nat) (av : List zV) (M : zM) (Q : Option zV → zM → Prop) : Prop :=
  ∀ (l : Launch) (D : va_G) (ct ad : Nat → Nat) (sz : Nat), Met l y (.code y cc mL rt :: zt) (zrm d) (zPc av M D ct ad sz) (zQc D ct ad (va_A (zws ct ad M) sz) Q) 0 0 (va_A (zws ct ad M) sz)
def zal : List zV → List (Option zV)
  | [] => []
  | .inr (.inl x) :: r => some (.inr (.inl x)) :: none :: zal r
  | v :: r => some v :: zal r
theorem zlv_none {ad : Nat → Nat} : ∀ (n i : Nat), zlv ad i (List.replicate n none) = []
  | 0, _ => rfl
  | n + 1, i => by rw [List.replicate_succ]; exact zlv_none n (i + 1)
theorem zal_in {ad : Nat → Nat} {n : Nat} : ∀ (av : List zV) (i : Nat), ∀ q ∈ zlv ad i (zal av ++ List.replicate n none), q ∈ lv_args i (av.map (zc ad))
  | [], i, q, h => by
    rw [zal, List.nil_append, zlv_none] at h
    cases h
  | .inl x :: r, i, q, h => by
    rcases List.mem_cons.mp h with h | h
    · subst h
      exact List.mem_cons_self
    · exact List.mem_cons_of_mem _ (zal_in r (i + 1) q h)
  | .inr (.inr x) :: r, i, q, h => by
    rcases List.mem_cons.mp h with h | h
    · subst h
      exact List.mem_cons_self
    · exact List.mem_cons_of_mem _ (zal_in r (i + 1) q h)
  | .inr (.inl x) :: r, i, q, h => by
    rcases List.mem_cons.mp h with h | h
    · subst h
      exact List.mem_cons_self
    · exact List.mem_cons_of_mem _ (zal_in r (i + 2) q h)
theorem zal_len {ad : Nat → Nat} : ∀ (av : List zV), (lg_sl (av.map (zc ad))).length = (zal av).length
  | [] => rfl
  | .inl x :: r => congrArg (· + 1) (zal_len r)
  | .inr (.inr x) :: r => congrArg (· + 1) (zal_len r)
  | .inr (.inl x) :: r => congrArg (· + 2) (zal_len r)
theorem Call.of {y : MethodName} {cc : ByteArray} {mL : Nat} {rt : Option FieldType} {d : Nat} {av : List zV} {M : zM} {Q : Option zV → zM → Prop} {lv0 : List (Option zV)} (hy : plainName y.cls = true) (hlv : zal av ++ List.replicate (mL - (zal av).length) none = lv0) (hm : (zal av).length ≤ mL) (k : Z y.cls cc mL rt d (zQ Q) 0 lv0 [] M) : Call y cc mL rt d av M Q := by
  intro l D ct ad sz
  refine Met.ofW (cc := cc) (maxL := mL) (ret := rt) hy rfl ?_
  intro p e s m args below meth c s₁ B hml hv
  obtain ⟨rfl, hsz, hP, hK, hD0, hSt⟩ := hv
  subst hsz
  subst hlv
  have hts := atoms_spec (ws := .code y cc mL rt :: zt) B.pre
  have hl0 := lv_entry (av.map (zc ad)) (n := mL) (by rw [zal_len]; exact hm)
  rw [lg_entry_eq]
  generalize (lg_sl (av.map (zc ad)) ++ List.replicate (mL - (lg_sl (av.map (zc ad))).length) Slot.unset).toArray = ls at hl0 ⊢
  refine k p l e _ s m _ below meth c D ct ad (va_A (zws ct ad M) s.heap.size) s.heap [] ls ⟨B.exec, B.bytes, hml, findClass_of_methodNamed B.named, fun w hw => hts w (List.mem_cons_of_mem _ hw), hK, hSt, ⟨Nat.le_refl _, Nat.le_refl _, Nat.le_refl _, Nat.le_refl _⟩, ⟨B.notSynchronized, B.returns⟩, fun q hq => Or.inr hq, trivial⟩ ?_ ?_ hP hD0.self va_S.rf
  · exact zhas_sub hl0 (zal_in av 0)
  · rw [List.length_append, List.length_replicate]
    omega
section
variable {own : String} {cc : ByteArray} {mL : Nat} {rt : Option FieldType} {d : Nat} {F : zF} {pc : Nat} {lv lv2 : List (Option zV)} {st : List zV} {M : zM}
variable {Q : Option zV → zM → Prop}
theorem zret_q {x : Option zV} {D : va_G} {ct ad : Nat → Nat} {A : Nat → Prop} {s : State} {H : Heap} {locs : List Loc} {args : Array Value} (h : Q x M) (hP : va_P D vwCl (zws ct ad M) H) (hS : va_S A s.heap H locs) : ∀ t : State, t.heap = H → s.WarmedH t.vm → zQc D ct ad A Q args s (.returned (x.map (zc ad))) t := by
  intro t ht _
  exact ⟨⟨x, M, rfl, h, by rw [ht]; exact hP⟩, by rw [ht]; exact hS.1, fun q h1 h2 => by rw [ht]; exact hS.2.1 q h1 h2⟩
theorem z_iret {x : Int} (hd : decode cc pc = .ok (.ireturn, 1)) (h : Q (some (vI x)) M) : Z own cc mL (some .int) d (zQ Q) pc lv [vI x] M := by
  intro p l e R s m args below meth c D ct ad A H locs ls hE hl hn hP hD hS
  exact W.iret hE.1 hE.2.1 hE.2.2.2.2.2.2.2.2.1.2 (zret_q (x := some (vI x)) h hP hS) hS.2.2 hd hE.2.2.2.2.2.2.2.2.1.1
theorem z_zret {x : Int} (hx : x = 0 ∨ x = 1) (hd : decode cc pc = .ok (.ireturn, 1)) (h : Q (some (vI x)) M) : Z own cc mL (some .boolean) d (zQ Q) pc lv [vI x] M := by
  intro p l e R s m args below meth c D ct ad A H locs ls hE hl hn hP hD hS
  exact W.zret hE.1 hE.2.1 hE.2.2.2.2.2.2.2.2.1.2 (by rcases hx with rfl | rfl <;> rfl) (zret_q (x := some (vI x)) h hP hS) hS.2.2 hd hE.2.2.2.2.2.2.2.2.1.1
theorem z_lret {x : Int} (hd : decode cc pc = .ok (.lreturn, 1)) (h : Q (some (vJ x)) M) : Z own cc mL (some .long) d (zQ Q) pc lv [vJ x] M := by
  intro p l e R s m args below meth c D ct ad A H locs ls hE hl hn hP hD hS
  exact W.lret hE.1 hE.2.1 hE.2.2.2.2.2.2.2.2.1.2 (zret_q (x := some (vJ x)) h hP hS) hS.2.2 hd hE.2.2.2.2.2.2.2.2.1.1
theorem z_vret (hd : decode cc pc = .ok (.return_, 1)) (h : Q none M) : Z own cc mL none d (zQ Q) pc lv [] M := by
  intro p l e R s m args below meth c D ct ad A H locs ls hE hl hn hP hD hS
  exact W.vret hE.1 hE.2.1 hE.2.2.2.2.2.2.2.2.1.2 (zret_q (x := none) h hP hS) hS.2.2 hd hE.2.2.2.2.2.2.2.2.1.1
end
theorem lw_good : GoodIn zt zt := fun w hw => ⟨hw, good_of_word (List.mem_filter.mp hw).2⟩
/-- what the tables say of a method that is called on an object of the class t -/
def zYv (y : MethodName) (cb : ByteArray) (mb : Nat) (rb : Option FieldType) (n t : Nat) : Prop := ∃ q : vw_C, vwCl[t]? = some q ∧ q.1 = y.cls ∧ t < 8 ∧ mb ≤ 21 ∧ Cond.code y cb mb rb ∈ zt ∧ Cond.instanceMethod y ∈ zt ∧ Cond.selects y.cls y y ∈ zt ∧ Cond.initialized y.cls ∈ zt ∧ y.cls ≠ "java/lang/invoke/MethodHandle" ∧ y.cls ≠ "java/lang/invoke/VarHandle" ∧ (parseMethodDescriptor y.desc).map (fun d => d.parameters.length) = some n
def zYs (y : MethodName) (cb : ByteArray) (mb : Nat) (rb : Option FieldType) (n : Nat) : Prop := mb ≤ 21 ∧ Cond.code y cb mb rb ∈ zt ∧ Cond.static y ∈ zt ∧ Cond.initialized y.cls ∈ zt ∧ y.cls ≠ "java/lang/invoke/MethodHandle" ∧ y.cls ≠ "java/lang/invoke/VarHandle" ∧ (parseMethodDescriptor y.desc).map (fun d => d.parameters.length) = some n
section
variable {own : String} {cc : ByteArray} {mL : Nat} {rt : Option FieldType} {d : Nat} {F : zF} {pc : Nat} {lv lv2 : List (Option zV)} {st : List zV} {M : zM}
theorem zPc_blind {av : List zV} {D : va_G} {ct ad : Nat → Nat} {sz : Nat} : FrameBlind (zPc av M D ct ad sz) := by
  intro a U g mk h
  obtain ⟨h1, h2, h3, h4, h5, h6⟩ := h
  exact ⟨h1, h2, h3, va_K.moved (u := U) (U := U.calling g mk a) (Vm.Alike.refl U.vm) h4, h5, zSt.moved (u := U) (U := U.calling g mk a) (Vm.Alike.refl U.vm) h6⟩
theorem z_free {ct ad : Nat → Nat} {A : Nat → Prop} {s : State} {H : Heap} {locs : List Loc} (hD : va_D A (zws ct ad M)) (hS : va_S A s.heap H locs) (hA : ∀ q : Nat, s.heap.size ≤ q → A q) : ∀ q, va_A (zws ct ad M) H.size q → A q := by
  intro q h
  rcases h with ⟨k, e, h⟩ | h
  · exact hD.2 k _ h
  · exact hA q (Nat.le_trans hS.1 h)
theorem z_pre {av : List zV} {D : va_G} {ct ad : Nat → Nat} {A : Nat → Prop} {s : State} {H : Heap} {locs : List Loc} (hP : va_P D vwCl (zws ct ad M) H) (hD : va_D A (zws ct ad M)) (hS : va_S A s.heap H locs) (hA : ∀ q : Nat, s.heap.size ≤ q → A q) (hK : va_K D vwCl (ztys ct) s) (hSt : zSt ad A s s.heap) : ∀ U : State, U.heap = H → s.WarmedH U.vm → zPc av M D ct ad H.size (av.map (zc ad)).toArray U := by
  intro U hU hW
  subst hU
  exact ⟨rfl, rfl, hP, va_K.moved hW.alike hK, ⟨hD.1, fun _ _ _ => trivial⟩, zSt.moved hW.alike ((hSt.kept hS.2.1).narrow (z_free hD hS hA))⟩
theorem zcat_sum (ad : Nat → Nat) (st : List zV) : ((st.map (zc ad)).map fun v => v.category).sum = (st.map zcat).sum := by
  rw [List.map_map]
  congr 1
  exact List.map_congr_left (fun v _ => zcat_c ad v)
/-- behind a call -/
theorem z_back {p : Program} {l : Launch} {e : Env} {R : Room} {s : State} {m : MethodId} {args : Array Value} {below : List Frame} {meth : Method} {c : Code} {D : va_G} {ct ad : Nat → Nat} {A : Nat → Prop} {H : Heap} {locs : List Loc} {ls : Array Slot} {Q : Option zV → zM → Prop} {a : Array Value} {st0 : List Value} {Qf : State → Prop} {cells slots : Nat}
    (hr : va_Run p l e R s m args below meth c H locs cells slots 0 0 (F0 m pc ls st0) (st.map (zc ad)) (zQc D ct ad (va_A (zws ct ad M) H.size) Q a) (va_A (zws ct ad M) H.size)) (hD : va_D A (zws ct ad M)) (hS : va_S A s.heap H locs) (hA : ∀ q : Nat, s.heap.size ≤ q → A q)
    (kk : ∀ (r : Option zV) (M2 : zM) (H1 : Heap) (locs1 : List Loc), Q r M2 → va_P D vwCl (zws ct ad M2) H1 → va_D A (zws ct ad M2) → va_S A s.heap H1 locs1 → W p l e R s m args below meth c H1 locs1 cells slots Qf (F0 m (pc + 3) ls ((r.toList ++ st).map (zc ad)))) : W p l e R s m args below meth c H locs cells slots Qf (F0 m pc ls st0) := by
  have hF := z_free hD hS hA
  intro T hT X
  obtain ⟨v, st₀, t, T2, L, h0, X2, hL, e1, e2, ⟨⟨r, M2, hv, hq, hP2⟩, hz, hk⟩, hgo⟩ := hr T hT X
  cases hv
  rw [h0] at hz hk
  have hD2 : va_D A (zws ct ad M2) := by
    refine ⟨fun i j p q hi hj h => ?_, fun k q hq => ?_⟩
    · have hi2 : i < 93 := by
        have := (List.getElem?_eq_some_iff.mp hi).1
        simpa [zws] using this
      have hj2 : j < 93 := by
        have := (List.getElem?_eq_some_iff.mp hj).1
        simpa [zws] using this
      rw [zws_get hi2] at hi
      rw [zws_get hj2] at hj
      cases hi
      cases hj
      exact hD.1 i j _ _ (zws_get hi2) (zws_get hj2) h
    · have hk2 : k < 93 := by
        have := (List.getElem?_eq_some_iff.mp hq).1
        simpa [zws] using this
      rw [zws_get hk2] at hq
      cases hq
      exact hD.2 k (ad k, zcell ct ad M k) (zws_get hk2)
  obtain ⟨t2, a1, b1⟩ := kk r M2 T2.heap (locs ++ L) hq (by rw [e1]; exact hP2) hD2
    ⟨Nat.le_trans hS.1 (by rw [e1]; exact hz), fun q h1 h2 => by rw [e1, hk q (Nat.lt_of_lt_of_le h1 hS.1) (fun z => h2 (hF q z))]; exact hS.2.1 q h1 h2, fun q hq => by
      rcases List.mem_append.mp hq with h | h
      · exact hS.2.2 q h
      · exact hF _ (hL q h)⟩ T2 rfl X2
  refine ⟨t2, hgo t2 ?_, b1⟩
  have e3 : ((r.toList ++ st).map (zc ad)) = (r.map (zc ad)).toList ++ st.map (zc ad) := by
    cases r <;> simp
  rw [e3] at a1
  exact a1
theorem z_callV {y : MethodName} {cb : ByteArray} {mb db idx n t b : Nat} {rb : Option FieldType} {as st0 : List zV} {Qc : Option zV → zM → Prop} (hy : zYv y cb mb rb n t) (hl : Cond.methodLink own idx y ∈ zt) (hc : Call y cb mb rb db (vR b :: as) M Qc) (hb : zKT b t) (hst : st0 = as.reverse ++ vR b :: st) (hna : as.length = n) (hdb : db + 1 ≤ d) (hw : (st.map zcat).sum ≤ 8) (hd : decode cc pc = .ok (.invokevirtual idx, 3))
    (kk : ∀ (r : Option zV) (M2 : zM), Qc r M2 → Z own cc mL rt d F (pc + 3) lv (r.toList ++ st) M2) : Z own cc mL rt d F pc lv st0 M := by
  intro p l e R s m args below meth c D ct ad A H locs ls hE hlv hn hP hD hS
  subst hst
  obtain ⟨q, h1, h2, h3, h4, h5, h6, h7, h8, h9, h10, h11⟩ := hy
  have hg := zws_get (ct := ct) (ad := ad) (M := M) hb.1
  rw [zc_o hb.2 h3] at hg
  have hts := hE.2.2.2.2.1
  have hR := hE.2.2.2.2.2.2.2.1
  have hrecv := va_recv hE.2.2.2.2.2.1 hP h1 hg
  rw [h2] at hrecv
  have cw : CallW R s args own y.cls idx y cb mb rb (.code y cb mb rb :: zt) (zrm db) 0 0 n :=
    ⟨callB_of n hts (fun w hw => by
      rcases List.mem_cons.mp hw with rfl | hw
      · exact lw_good _ h5
      · exact lw_good _ hw) rfl rfl rfl (hts _ h8) (hts _ hl) ⟨h9, h10, h11⟩ ⟨Nat.le_trans hdb hR.1, Nat.le_trans (show 8 + (mb + 11) + 40 * db ≤ 40 * d by omega) hR.2.1⟩, hts _ h6, hts _ h7⟩
  have hpre := z_pre (av := vR b :: as) hP hD hS hE.2.2.2.2.2.2.2.2.2.1 hE.2.2.2.2.2.1 hE.2.2.2.2.2.2.1
  refine z_back (st := st) (va_runV (As := as.map (zc ad)) (rest := st.map (zc ad)) ⟨hE.1, hE.2.1, hE.2.2.1, hE.2.2.2.1, hts⟩ (hc l D ct ad H.size) cw ⟨zPc_blind, hrecv, hpre⟩ rfl (by rw [List.length_map]; exact hna) hlv.1 (by simp [zc]) (by rw [zcat_sum]; exact (Nat.zero_add _).symm ▸ hw) hd ⟨hR.2.2.1, hR.2.2.2⟩) hD hS hE.2.2.2.2.2.2.2.2.2.1 (fun r M2 H1 locs1 hq hP1 hD1 hS1 => ?_)
  exact kk r M2 hq p l e R s m args below meth c D ct ad A H1 locs1 ls hE hlv hn hP1 hD1 hS1
theorem z_callS {y : MethodName} {cb : ByteArray} {mb db idx n : Nat} {rb : Option FieldType} {as st0 : List zV} {Qc : Option zV → zM → Prop} (hy : zYs y cb mb rb n) (hl : Cond.methodLink own idx y ∈ zt) (hc : Call y cb mb rb db as M Qc) (hst : st0 = as.reverse ++ st) (hna : as.length = n) (hdb : db + 1 ≤ d) (hw : (st.map zcat).sum ≤ 8) (hd : decode cc pc = .ok (.invokestatic idx, 3))
    (kk : ∀ (r : Option zV) (M2 : zM), Qc r M2 → Z own cc mL rt d F (pc + 3) lv (r.toList ++ st) M2) : Z own cc mL rt d F pc lv st0 M := by
  intro p l e R s m args below meth c D ct ad A H locs ls hE hlv hn hP hD hS
  subst hst
  obtain ⟨h4, h5, h6, h8, h9, h10, h11⟩ := hy
  have hts := hE.2.2.2.2.1
  have hR := hE.2.2.2.2.2.2.2.1
  have cw : CallB R s args own idx y cb mb rb (.code y cb mb rb :: zt) (zrm db) 0 0 n ∧ (Cond.static y).before args s = true :=
    ⟨callB_of n hts (fun w hw => by
      rcases List.mem_cons.mp hw with rfl | hw
      · exact lw_good _ h5
      · exact lw_good _ hw) rfl rfl rfl (hts _ h8) (hts _ hl) ⟨h9, h10, h11⟩ ⟨Nat.le_trans hdb hR.1, Nat.le_trans (show 8 + (mb + 11) + 40 * db ≤ 40 * d by omega) hR.2.1⟩, hts _ h6⟩
  have hpre := z_pre (av := as) hP hD hS hE.2.2.2.2.2.2.2.2.2.1 hE.2.2.2.2.2.1 hE.2.2.2.2.2.2.1
  refine z_back (st := st) (va_runS (As := as.map (zc ad)) (rest := st.map (zc ad)) ⟨hE.1, hE.2.1, hE.2.2.1, hE.2.2.2.1, hts⟩ (hc l D ct ad H.size) cw ⟨zPc_blind, hpre⟩ rfl (by rw [List.length_map]; exact hna) hlv.1 (by simp [zc]) (by rw [zcat_sum]; exact (Nat.zero_add _).symm ▸ hw) hd ⟨hR.2.2.1, hR.2.2.2⟩) hD hS hE.2.2.2.2.2.2.2.2.2.1 (fun r M2 H1 locs1 hq hP1 hD1 hS1 => ?_)
  exact kk r M2 hq p l e R s m args below meth c D ct ad A H1 locs1 ls hE hlv hn hP1 hD1 hS1
end
end
section
theorem lw_tb {i : Nat} {w : Cond} (h : tables_1[i]? = some w) : w ∈ lw_tbl := List.mem_append_right _ (List.mem_of_getElem? h)
theorem lw_sb {i : Nat} {w : Cond} (h : (k2_sels lw_privs)[i]? = some w) : w ∈ lw_tbl := List.mem_append_left _ (List.mem_of_getElem? h)
set_option maxRecDepth 20000 in
theorem ztX0 : ∀ w ∈ wsX00, w ∈ zt := zt_all inX0 (by decide +kernel)
set_option maxRecDepth 20000 in
theorem ztX1 : ∀ w ∈ wsX10, w ∈ zt := zt_all inX1 (by decide +kernel)
set_option maxRecDepth 20000 in
theorem ztX2 : ∀ w ∈ wsX20, w ∈ zt := zt_all inX2 (by decide +kernel)
set_option maxRecDepth 20000 in
theorem ztX3 : ∀ w ∈ wsX30, w ∈ zt := zt_all inX3 (by decide +kernel)
set_option maxRecDepth 20000 in
theorem ztX4 : ∀ w ∈ wsX40, w ∈ zt := zt_all inX4 (by decide +kernel)
set_option maxRecDepth 20000 in
theorem ztX5 : ∀ w ∈ wsX50, w ∈ zt := zt_all inX5 (by decide +kernel)
set_option maxRecDepth 20000 in
theorem ztX6 : ∀ w ∈ wsX60, w ∈ zt := zt_all inX6 (by decide +kernel)
set_option maxRecDepth 20000 in
theorem ztX7 : ∀ w ∈ wsX70, w ∈ zt := zt_all inX7 (by decide +kernel)
theorem zk_0 : zKT 0 6 := ⟨by decide, rfl⟩
theorem zk_1 : zKT 1 5 := ⟨by decide, rfl⟩
theorem zk_2 : zKT 2 5 := ⟨by decide, rfl⟩
theorem zk_3 : zKT 3 5 := ⟨by decide, rfl⟩
theorem zk_4 : zKT 4 8 := ⟨by decide, rfl⟩
theorem zk_5 : zKT 5 11 := ⟨by decide, rfl⟩
theorem zk_6 : zKT 6 9 := ⟨by decide, rfl⟩
theorem zk_7 : zKT 7 1 := ⟨by decide, rfl⟩
theorem zk_8 : zKT 8 0 := ⟨by decide, rfl⟩
theorem zk_9 : zKT 9 3 := ⟨by decide, rfl⟩
theorem zk_10 : zKT 10 9 := ⟨by decide, rfl⟩
theorem zk_11 : zKT 11 9 := ⟨by decide, rfl⟩
theorem zk_12 : zKT 12 9 := ⟨by decide, rfl⟩
theorem zk_13 : zKT 13 9 := ⟨by decide, rfl⟩
theorem zk_14 : zKT 14 12 := ⟨by decide, rfl⟩
theorem zk_15 : zKT 15 12 := ⟨by decide, rfl⟩
theorem zk_16 : zKT 16 12 := ⟨by decide, rfl⟩
theorem zk_17 : zKT 17 8 := ⟨by decide, rfl⟩
theorem zk_18 : zKT 18 8 := ⟨by decide, rfl⟩
theorem zk_19 : zKT 19 8 := ⟨by decide, rfl⟩
theorem zk_20 : zKT 20 4 := ⟨by decide, rfl⟩
theorem zk_21 : zKT 21 4 := ⟨by decide, rfl⟩
theorem zk_22 : zKT 22 4 := ⟨by decide, rfl⟩
theorem zk_23 : zKT 23 4 := ⟨by decide, rfl⟩
theorem zk_24 : zKT 24 4 := ⟨by decide, rfl⟩
theorem zk_25 : zKT 25 4 := ⟨by decide, rfl⟩
theorem zk_26 : zKT 26 4 := ⟨by decide, rfl⟩
theorem zk_27 : zKT 27 4 := ⟨by decide, rfl⟩
theorem zk_28 : zKT 28 4 := ⟨by decide, rfl⟩
theorem zk_29 : zKT 29 4 := ⟨by decide, rfl⟩
theorem zk_30 : zKT 30 4 := ⟨by decide, rfl⟩
theorem zk_31 : zKT 31 4 := ⟨by decide, rfl⟩
theorem zk_32 : zKT 32 4 := ⟨by decide, rfl⟩
theorem zk_33 : zKT 33 4 := ⟨by decide, rfl⟩
theorem zk_34 : zKT 34 4 := ⟨by decide, rfl⟩
theorem zk_35 : zKT 35 4 := ⟨by decide, rfl⟩
theorem zk_36 : zKT 36 4 := ⟨by decide, rfl⟩
theorem zk_37 : zKT 37 4 := ⟨by decide, rfl⟩
theorem zk_38 : zKT 38 4 := ⟨by decide, rfl⟩
theorem zk_39 : zKT 39 4 := ⟨by decide, rfl⟩
theorem zk_40 : zKT 40 4 := ⟨by decide, rfl⟩
theorem zk_41 : zKT 41 4 := ⟨by decide, rfl⟩
theorem zk_42 : zKT 42 4 := ⟨by decide, rfl⟩
theorem zk_43 : zKT 43 4 := ⟨by decide, rfl⟩
theorem zk_44 : zKT 44 4 := ⟨by decide, rfl⟩
theorem zk_45 : zKT 45 4 := ⟨by decide, rfl⟩
theorem zk_46 : zKT 46 4 := ⟨by decide, rfl⟩
theorem zk_47 : zKT 47 4 := ⟨by decide, rfl⟩
theorem zk_48 : zKT 48 4 := ⟨by decide, rfl⟩
theorem zk_49 : zKT 49 4 := ⟨by decide, rfl⟩
theorem zk_50 : zKT 50 4 := ⟨by decide, rfl⟩
theorem zk_51 : zKT 51 4 := ⟨by decide, rfl⟩
theorem zk_52 : zKT 52 4 := ⟨by decide, rfl⟩
theorem zk_53 : zKT 53 4 := ⟨by decide, rfl⟩
theorem zk_54 : zKT 54 4 := ⟨by decide, rfl⟩
theorem zk_55 : zKT 55 4 := ⟨by decide, rfl⟩
theorem zk_56 : zKT 56 2 := ⟨by decide, rfl⟩
theorem zk_57 : zKT 57 2 := ⟨by decide, rfl⟩
theorem zk_58 : zKT 58 2 := ⟨by decide, rfl⟩
theorem zk_59 : zKT 59 2 := ⟨by decide, rfl⟩
theorem zk_60 : zKT 60 10 := ⟨by decide, rfl⟩
theorem zk_61 : zKT 61 10 := ⟨by decide, rfl⟩
theorem zk_62 : zKT 62 10 := ⟨by decide, rfl⟩
theorem zk_63 : zKT 63 10 := ⟨by decide, rfl⟩
theorem zk_64 : zKT 64 9 := ⟨by decide, rfl⟩
theorem zk_65 : zKT 65 9 := ⟨by decide, rfl⟩
theorem zk_66 : zKT 66 9 := ⟨by decide, rfl⟩
theorem zk_67 : zKT 67 10 := ⟨by decide, rfl⟩
theorem zk_68 : zKT 68 10 := ⟨by decide, rfl⟩
theorem zk_69 : zKT 69 9 := ⟨by decide, rfl⟩
theorem zk_70 : zKT 70 9 := ⟨by decide, rfl⟩
theorem zk_71 : zKT 71 9 := ⟨by decide, rfl⟩
theorem zk_72 : zKT 72 9 := ⟨by decide, rfl⟩
theorem zk_73 : zKT 73 9 := ⟨by decide, rfl⟩
theorem zk_74 : zKT 74 9 := ⟨by decide, rfl⟩
theorem zk_75 : zKT 75 7 := ⟨by decide, rfl⟩
theorem zk_76 : zKT 76 10 := ⟨by decide, rfl⟩
theorem zk_77 : zKT 77 10 := ⟨by decide, rfl⟩
theorem zk_78 : zKT 78 9 := ⟨by decide, rfl⟩
theorem zk_79 : zKT 79 9 := ⟨by decide, rfl⟩
theorem zk_80 : zKT 80 9 := ⟨by decide, rfl⟩
theorem zk_81 : zKT 81 9 := ⟨by decide, rfl⟩
theorem zk_82 : zKT 82 9 := ⟨by decide, rfl⟩
theorem zk_83 : zKT 83 10 := ⟨by decide, rfl⟩
theorem zk_84 : zKT 84 9 := ⟨by decide, rfl⟩
theorem zk_85 : zKT 85 9 := ⟨by decide, rfl⟩
theorem zk_86 : zKT 86 10 := ⟨by decide, rfl⟩
theorem zk_87 : zKT 87 9 := ⟨by decide, rfl⟩
theorem zk_88 : zKT 88 9 := ⟨by decide, rfl⟩
theorem zk_89 : zKT 89 10 := ⟨by decide, rfl⟩
theorem zk_90 : zKT 90 10 := ⟨by decide, rfl⟩
theorem zk_91 : zKT 91 9 := ⟨by decide, rfl⟩
theorem zk_92 : zKT 92 9 := ⟨by decide, rfl⟩
theorem fl_X4_11 : zFl RX4 11 4 0 0 := ⟨RX4, TX4, 6, tyX4, rfl, by decide, rfl, zt_of (lw_tb (i := 33) (by decide +kernel)) rfl, rfl, ztX4, by decide, tyX4_ok, nmX4, rfl, rfl, rfl⟩
theorem fl_X6_140 : zFl RX6 140 4 0 0 := ⟨RX4, TX4, 6, tyX4, rfl, by decide, rfl, zt_of (lw_tb (i := 34) (by decide +kernel)) rfl, rfl, ztX4, by decide, tyX4_ok, nmX4, rfl, rfl, rfl⟩
theorem fl_X4_15 : zFl RX4 15 4 1 1 := ⟨RX4, TX4, 6, tyX4, rfl, by decide, rfl, zt_of (lw_tb (i := 35) (by decide +kernel)) rfl, rfl, ztX4, by decide, tyX4_ok, nmX4, rfl, rfl, rfl⟩
theorem fl_X5_57 : zFl RX5 57 4 1 1 := ⟨RX4, TX4, 6, tyX4, rfl, by decide, rfl, zt_of (lw_tb (i := 36) (by decide +kernel)) rfl, rfl, ztX4, by decide, tyX4_ok, nmX4, rfl, rfl, rfl⟩
theorem fl_X6_143 : zFl RX6 143 4 1 1 := ⟨RX4, TX4, 6, tyX4, rfl, by decide, rfl, zt_of (lw_tb (i := 37) (by decide +kernel)) rfl, rfl, ztX4, by decide, tyX4_ok, nmX4, rfl, rfl, rfl⟩
theorem fl_X4_18 : zFl RX4 18 4 2 2 := ⟨RX4, TX4, 6, tyX4, rfl, by decide, rfl, zt_of (lw_tb (i := 38) (by decide +kernel)) rfl, rfl, ztX4, by decide, tyX4_ok, nmX4, rfl, rfl, rfl⟩
theorem fl_X6_146 : zFl RX6 146 4 2 2 := ⟨RX4, TX4, 6, tyX4, rfl, by decide, rfl, zt_of (lw_tb (i := 39) (by decide +kernel)) rfl, rfl, ztX4, by decide, tyX4_ok, nmX4, rfl, rfl, rfl⟩
theorem fl_X4_21 : zFl RX4 21 4 3 3 := ⟨RX4, TX4, 6, tyX4, rfl, by decide, rfl, zt_of (lw_tb (i := 40) (by decide +kernel)) rfl, rfl, ztX4, by decide, tyX4_ok, nmX4, rfl, rfl, rfl⟩
theorem fl_X6_149 : zFl RX6 149 4 3 3 := ⟨RX4, TX4, 6, tyX4, rfl, by decide, rfl, zt_of (lw_tb (i := 41) (by decide +kernel)) rfl, rfl, ztX4, by decide, tyX4_ok, nmX4, rfl, rfl, rfl⟩
theorem fl_X4_24 : zFl RX4 24 4 4 4 := ⟨RX4, TX4, 6, tyX4, rfl, by decide, rfl, zt_of (lw_tb (i := 42) (by decide +kernel)) rfl, rfl, ztX4, by decide, tyX4_ok, nmX4, rfl, rfl, rfl⟩
theorem fl_X6_152 : zFl RX6 152 4 4 4 := ⟨RX4, TX4, 6, tyX4, rfl, by decide, rfl, zt_of (lw_tb (i := 43) (by decide +kernel)) rfl, rfl, ztX4, by decide, tyX4_ok, nmX4, rfl, rfl, rfl⟩
theorem fl_X4_27 : zFl RX4 27 4 5 5 := ⟨RX4, TX4, 6, tyX4, rfl, by decide, rfl, zt_of (lw_tb (i := 44) (by decide +kernel)) rfl, rfl, ztX4, by decide, tyX4_ok, nmX4, rfl, rfl, rfl⟩
theorem fl_X5_64 : zFl RX5 64 4 5 5 := ⟨RX4, TX4, 6, tyX4, rfl, by decide, rfl, zt_of (lw_tb (i := 45) (by decide +kernel)) rfl, rfl, ztX4, by decide, tyX4_ok, nmX4, rfl, rfl, rfl⟩
theorem fl_X6_155 : zFl RX6 155 4 5 5 := ⟨RX4, TX4, 6, tyX4, rfl, by decide, rfl, zt_of (lw_tb (i := 46) (by decide +kernel)) rfl, rfl, ztX4, by decide, tyX4_ok, nmX4, rfl, rfl, rfl⟩
theorem fl_X5_9 : zFl RX5 9 5 0 0 := ⟨RX5, TX5, 9, tyX5, rfl, by decide, rfl, zt_of (lw_tb (i := 62) (by decide +kernel)) rfl, rfl, ztX5, by decide, tyX5_ok, nmX5, rfl, rfl, rfl⟩
theorem fl_X0_65 : zFl RX0 65 5 0 0 := ⟨RX5, TX5, 9, tyX5, rfl, by decide, rfl, zt_of (lw_tb (i := 63) (by decide +kernel)) rfl, rfl, ztX5, by decide, tyX5_ok, nmX5, rfl, rfl, rfl⟩
theorem fl_X1_87 : zFl RX1 87 5 0 0 := ⟨RX5, TX5, 9, tyX5, rfl, by decide, rfl, zt_of (lw_tb (i := 64) (by decide +kernel)) rfl, rfl, ztX5, by decide, tyX5_ok, nmX5, rfl, rfl, rfl⟩
theorem fl_X6_102 : zFl RX6 102 5 0 0 := ⟨RX5, TX5, 9, tyX5, rfl, by decide, rfl, zt_of (lw_tb (i := 65) (by decide +kernel)) rfl, rfl, ztX5, by decide, tyX5_ok, nmX5, rfl, rfl, rfl⟩
theorem fl_X5_15 : zFl RX5 15 5 1 1 := ⟨RX5, TX5, 9, tyX5, rfl, by decide, rfl, zt_of (lw_tb (i := 66) (by decide +kernel)) rfl, rfl, ztX5, by decide, tyX5_ok, nmX5, rfl, rfl, rfl⟩
theorem fl_X0_59 : zFl RX0 59 5 1 1 := ⟨RX5, TX5, 9, tyX5, rfl, by decide, rfl, zt_of (lw_tb (i := 67) (by decide +kernel)) rfl, rfl, ztX5, by decide, tyX5_ok, nmX5, rfl, rfl, rfl⟩
theorem fl_X6_99 : zFl RX6 99 5 1 1 := ⟨RX5, TX5, 9, tyX5, rfl, by decide, rfl, zt_of (lw_tb (i := 68) (by decide +kernel)) rfl, rfl, ztX5, by decide, tyX5_ok, nmX5, rfl, rfl, rfl⟩
theorem fl_X1_90 : zFl RX1 90 5 1 1 := ⟨RX5, TX5, 9, tyX5, rfl, by decide, rfl, zt_of (lw_tb (i := 69) (by decide +kernel)) rfl, rfl, ztX5, by decide, tyX5_ok, nmX5, rfl, rfl, rfl⟩
theorem fl_X5_18 : zFl RX5 18 5 2 2 := ⟨RX5, TX5, 9, tyX5, rfl, by decide, rfl, zt_of (lw_tb (i := 70) (by decide +kernel)) rfl, rfl, ztX5, by decide, tyX5_ok, nmX5, rfl, rfl, rfl⟩
theorem fl_X6_112 : zFl RX6 112 5 2 2 := ⟨RX5, TX5, 9, tyX5, rfl, by decide, rfl, zt_of (lw_tb (i := 71) (by decide +kernel)) rfl, rfl, ztX5, by decide, tyX5_ok, nmX5, rfl, rfl, rfl⟩
theorem fl_X5_22 : zFl RX5 22 5 3 3 := ⟨RX5, TX5, 9, tyX5, rfl, by decide, rfl, zt_of (lw_tb (i := 72) (by decide +kernel)) rfl, rfl, ztX5, by decide, tyX5_ok, nmX5, rfl, rfl, rfl⟩
theorem fl_X6_116 : zFl RX6 116 5 3 3 := ⟨RX5, TX5, 9, tyX5, rfl, by decide, rfl, zt_of (lw_tb (i := 73) (by decide +kernel)) rfl, rfl, ztX5, by decide, tyX5_ok, nmX5, rfl, rfl, rfl⟩
theorem fl_X5_26 : zFl RX5 26 5 4 4 := ⟨RX5, TX5, 9, tyX5, rfl, by decide, rfl, zt_of (lw_tb (i := 74) (by decide +kernel)) rfl, rfl, ztX5, by decide, tyX5_ok, nmX5, rfl, trivial, rfl⟩
theorem fl_X6_84 : zFl RX6 84 5 4 4 := ⟨RX5, TX5, 9, tyX5, rfl, by decide, rfl, zt_of (lw_tb (i := 75) (by decide +kernel)) rfl, rfl, ztX5, by decide, tyX5_ok, nmX5, rfl, trivial, rfl⟩
theorem fl_X1_97 : zFl RX1 97 5 4 4 := ⟨RX5, TX5, 9, tyX5, rfl, by decide, rfl, zt_of (lw_tb (i := 76) (by decide +kernel)) rfl, rfl, ztX5, by decide, tyX5_ok, nmX5, rfl, trivial, rfl⟩
theorem fl_X5_32 : zFl RX5 32 5 5 5 := ⟨RX5, TX5, 9, tyX5, rfl, by decide, rfl, zt_of (lw_tb (i := 77) (by decide +kernel)) rfl, rfl, ztX5, by decide, tyX5_ok, nmX5, rfl, trivial, rfl⟩
theorem fl_X6_129 : zFl RX6 129 5 5 5 := ⟨RX5, TX5, 9, tyX5, rfl, by decide, rfl, zt_of (lw_tb (i := 78) (by decide +kernel)) rfl, rfl, ztX5, by decide, tyX5_ok, nmX5, rfl, trivial, rfl⟩
theorem fl_X5_36 : zFl RX5 36 5 6 6 := ⟨RX5, TX5, 9, tyX5, rfl, by decide, rfl, zt_of (lw_tb (i := 79) (by decide +kernel)) rfl, rfl, ztX5, by decide, tyX5_ok, nmX5, rfl, rfl, rfl⟩
theorem fl_X6_125 : zFl RX6 125 5 6 6 := ⟨RX5, TX5, 9, tyX5, rfl, by decide, rfl, zt_of (lw_tb (i := 80) (by decide +kernel)) rfl, rfl, ztX5, by decide, tyX5_ok, nmX5, rfl, rfl, rfl⟩
theorem fl_X5_39 : zFl RX5 39 5 7 7 := ⟨RX5, TX5, 9, tyX5, rfl, by decide, rfl, zt_of (lw_tb (i := 81) (by decide +kernel)) rfl, rfl, ztX5, by decide, tyX5_ok, nmX5, rfl, trivial, rfl⟩
theorem fl_X1_72 : zFl RX1 72 5 7 7 := ⟨RX5, TX5, 9, tyX5, rfl, by decide, rfl, zt_of (lw_tb (i := 82) (by decide +kernel)) rfl, rfl, ztX5, by decide, tyX5_ok, nmX5, rfl, trivial, rfl⟩
theorem fl_X6_184 : zFl RX6 184 5 7 7 := ⟨RX5, TX5, 9, tyX5, rfl, by decide, rfl, zt_of (lw_tb (i := 83) (by decide +kernel)) rfl, rfl, ztX5, by decide, tyX5_ok, nmX5, rfl, trivial, rfl⟩
theorem fl_X5_43 : zFl RX5 43 5 8 8 := ⟨RX5, TX5, 9, tyX5, rfl, by decide, rfl, zt_of (lw_tb (i := 84) (by decide +kernel)) rfl, rfl, ztX5, by decide, tyX5_ok, nmX5, rfl, rfl, rfl⟩
theorem fl_X1_76 : zFl RX1 76 5 8 8 := ⟨RX5, TX5, 9, tyX5, rfl, by decide, rfl, zt_of (lw_tb (i := 85) (by decide +kernel)) rfl, rfl, ztX5, by decide, tyX5_ok, nmX5, rfl, rfl, rfl⟩
theorem fl_X6_193 : zFl RX6 193 5 8 8 := ⟨RX5, TX5, 9, tyX5, rfl, by decide, rfl, zt_of (lw_tb (i := 86) (by decide +kernel)) rfl, rfl, ztX5, by decide, tyX5_ok, nmX5, rfl, rfl, rfl⟩
theorem fl_X1_11 : zFl RX1 11 1 0 0 := ⟨RX1, TX1, 16, tyX1, rfl, by decide, rfl, zt_of (lw_tb (i := 114) (by decide +kernel)) rfl, rfl, ztX1, by decide, tyX1_ok, nmX1, rfl, trivial, rfl⟩
theorem fl_X1_15 : zFl RX1 15 1 1 1 := ⟨RX1, TX1, 16, tyX1, rfl, by decide, rfl, zt_of (lw_tb (i := 115) (by decide +kernel)) rfl, rfl, ztX1, by decide, tyX1_ok, nmX1, rfl, rfl, rfl⟩
theorem fl_X1_19 : zFl RX1 19 1 2 2 := ⟨RX1, TX1, 16, tyX1, rfl, by decide, rfl, zt_of (lw_tb (i := 116) (by decide +kernel)) rfl, rfl, ztX1, by decide, tyX1_ok, nmX1, rfl, rfl, rfl⟩
theorem fl_X1_22 : zFl RX1 22 1 3 3 := ⟨RX1, TX1, 16, tyX1, rfl, by decide, rfl, zt_of (lw_tb (i := 117) (by decide +kernel)) rfl, rfl, ztX1, by decide, tyX1_ok, nmX1, rfl, rfl, rfl⟩
theorem fl_X1_26 : zFl RX1 26 1 4 4 := ⟨RX1, TX1, 16, tyX1, rfl, by decide, rfl, zt_of (lw_tb (i := 118) (by decide +kernel)) rfl, rfl, ztX1, by decide, tyX1_ok, nmX1, rfl, rfl, rfl⟩
theorem fl_X1_29 : zFl RX1 29 1 5 5 := ⟨RX1, TX1, 16, tyX1, rfl, by decide, rfl, zt_of (lw_tb (i := 119) (by decide +kernel)) rfl, rfl, ztX1, by decide, tyX1_ok, nmX1, rfl, rfl, rfl⟩
theorem fl_X1_32 : zFl RX1 32 1 6 6 := ⟨RX1, TX1, 16, tyX1, rfl, by decide, rfl, zt_of (lw_tb (i := 120) (by decide +kernel)) rfl, rfl, ztX1, by decide, tyX1_ok, nmX1, rfl, rfl, rfl⟩
theorem fl_X1_35 : zFl RX1 35 1 7 7 := ⟨RX1, TX1, 16, tyX1, rfl, by decide, rfl, zt_of (lw_tb (i := 121) (by decide +kernel)) rfl, rfl, ztX1, by decide, tyX1_ok, nmX1, rfl, rfl, rfl⟩
theorem fl_X1_38 : zFl RX1 38 1 8 8 := ⟨RX1, TX1, 16, tyX1, rfl, by decide, rfl, zt_of (lw_tb (i := 122) (by decide +kernel)) rfl, rfl, ztX1, by decide, tyX1_ok, nmX1, rfl, trivial, rfl⟩
theorem fl_X1_41 : zFl RX1 41 1 9 9 := ⟨RX1, TX1, 16, tyX1, rfl, by decide, rfl, zt_of (lw_tb (i := 123) (by decide +kernel)) rfl, rfl, ztX1, by decide, tyX1_ok, nmX1, rfl, trivial, rfl⟩
theorem fl_X1_44 : zFl RX1 44 1 10 10 := ⟨RX1, TX1, 16, tyX1, rfl, by decide, rfl, zt_of (lw_tb (i := 124) (by decide +kernel)) rfl, rfl, ztX1, by decide, tyX1_ok, nmX1, rfl, rfl, rfl⟩
theorem fl_X1_47 : zFl RX1 47 1 11 11 := ⟨RX1, TX1, 16, tyX1, rfl, by decide, rfl, zt_of (lw_tb (i := 125) (by decide +kernel)) rfl, rfl, ztX1, by decide, tyX1_ok, nmX1, rfl, rfl, rfl⟩
theorem fl_X1_50 : zFl RX1 50 1 12 12 := ⟨RX1, TX1, 16, tyX1, rfl, by decide, rfl, zt_of (lw_tb (i := 126) (by decide +kernel)) rfl, rfl, ztX1, by decide, tyX1_ok, nmX1, rfl, rfl, rfl⟩
theorem fl_X1_53 : zFl RX1 53 1 13 13 := ⟨RX1, TX1, 16, tyX1, rfl, by decide, rfl, zt_of (lw_tb (i := 127) (by decide +kernel)) rfl, rfl, ztX1, by decide, tyX1_ok, nmX1, rfl, rfl, rfl⟩
theorem fl_X1_56 : zFl RX1 56 1 14 14 := ⟨RX1, TX1, 16, tyX1, rfl, by decide, rfl, zt_of (lw_tb (i := 128) (by decide +kernel)) rfl, rfl, ztX1, by decide, tyX1_ok, nmX1, rfl, rfl, rfl⟩
theorem fl_X1_59 : zFl RX1 59 1 15 15 := ⟨RX1, TX1, 16, tyX1, rfl, by decide, rfl, zt_of (lw_tb (i := 129) (by decide +kernel)) rfl, rfl, ztX1, by decide, tyX1_ok, nmX1, rfl, rfl, rfl⟩
theorem fl_X0_9 : zFl RX0 9 0 0 0 := ⟨RX0, TX0, 8, tyX0, rfl, by decide, rfl, zt_of (lw_tb (i := 169) (by decide +kernel)) rfl, rfl, ztX0, by decide, tyX0_ok, nmX0, rfl, trivial, rfl⟩
theorem fl_X0_15 : zFl RX0 15 0 1 1 := ⟨RX0, TX0, 8, tyX0, rfl, by decide, rfl, zt_of (lw_tb (i := 170) (by decide +kernel)) rfl, rfl, ztX0, by decide, tyX0_ok, nmX0, rfl, trivial, rfl⟩
theorem fl_X0_18 : zFl RX0 18 0 2 2 := ⟨RX0, TX0, 8, tyX0, rfl, by decide, rfl, zt_of (lw_tb (i := 171) (by decide +kernel)) rfl, rfl, ztX0, by decide, tyX0_ok, nmX0, rfl, rfl, rfl⟩
theorem fl_X0_22 : zFl RX0 22 0 3 3 := ⟨RX0, TX0, 8, tyX0, rfl, by decide, rfl, zt_of (lw_tb (i := 172) (by decide +kernel)) rfl, rfl, ztX0, by decide, tyX0_ok, nmX0, rfl, rfl, rfl⟩
theorem fl_X0_25 : zFl RX0 25 0 4 4 := ⟨RX0, TX0, 8, tyX0, rfl, by decide, rfl, zt_of (lw_tb (i := 173) (by decide +kernel)) rfl, rfl, ztX0, by decide, tyX0_ok, nmX0, rfl, trivial, rfl⟩
theorem fl_X6_217 : zFl RX6 217 0 4 4 := ⟨RX0, TX0, 8, tyX0, rfl, by decide, rfl, zt_of (lw_tb (i := 174) (by decide +kernel)) rfl, rfl, ztX0, by decide, tyX0_ok, nmX0, rfl, trivial, rfl⟩
theorem fl_X0_29 : zFl RX0 29 0 5 5 := ⟨RX0, TX0, 8, tyX0, rfl, by decide, rfl, zt_of (lw_tb (i := 175) (by decide +kernel)) rfl, rfl, ztX0, by decide, tyX0_ok, nmX0, rfl, rfl, rfl⟩
theorem fl_X6_208 : zFl RX6 208 0 5 5 := ⟨RX0, TX0, 8, tyX0, rfl, by decide, rfl, zt_of (lw_tb (i := 176) (by decide +kernel)) rfl, rfl, ztX0, by decide, tyX0_ok, nmX0, rfl, rfl, rfl⟩
theorem fl_X0_33 : zFl RX0 33 0 6 6 := ⟨RX0, TX0, 8, tyX0, rfl, by decide, rfl, zt_of (lw_tb (i := 177) (by decide +kernel)) rfl, rfl, ztX0, by decide, tyX0_ok, nmX0, rfl, rfl, rfl⟩
theorem fl_X6_211 : zFl RX6 211 0 6 6 := ⟨RX0, TX0, 8, tyX0, rfl, by decide, rfl, zt_of (lw_tb (i := 178) (by decide +kernel)) rfl, rfl, ztX0, by decide, tyX0_ok, nmX0, rfl, rfl, rfl⟩
theorem fl_X0_36 : zFl RX0 36 0 7 7 := ⟨RX0, TX0, 8, tyX0, rfl, by decide, rfl, zt_of (lw_tb (i := 179) (by decide +kernel)) rfl, rfl, ztX0, by decide, tyX0_ok, nmX0, rfl, rfl, rfl⟩
theorem fl_X6_214 : zFl RX6 214 0 7 7 := ⟨RX0, TX0, 8, tyX0, rfl, by decide, rfl, zt_of (lw_tb (i := 180) (by decide +kernel)) rfl, rfl, ztX0, by decide, tyX0_ok, nmX0, rfl, rfl, rfl⟩
theorem fl_X3_9 : zFl RX3 9 3 0 0 := ⟨RX3, TX3, 11, tyX3, rfl, by decide, rfl, zt_of (lw_tb (i := 205) (by decide +kernel)) rfl, rfl, ztX3, by decide, tyX3_ok, nmX3, rfl, trivial, rfl⟩
theorem fl_X3_15 : zFl RX3 15 3 1 1 := ⟨RX3, TX3, 11, tyX3, rfl, by decide, rfl, zt_of (lw_tb (i := 206) (by decide +kernel)) rfl, rfl, ztX3, by decide, tyX3_ok, nmX3, rfl, trivial, rfl⟩
theorem fl_X3_18 : zFl RX3 18 3 2 2 := ⟨RX3, TX3, 11, tyX3, rfl, by decide, rfl, zt_of (lw_tb (i := 207) (by decide +kernel)) rfl, rfl, ztX3, by decide, tyX3_ok, nmX3, rfl, trivial, rfl⟩
theorem fl_X3_21 : zFl RX3 21 3 3 3 := ⟨RX3, TX3, 11, tyX3, rfl, by decide, rfl, zt_of (lw_tb (i := 208) (by decide +kernel)) rfl, rfl, ztX3, by decide, tyX3_ok, nmX3, rfl, trivial, rfl⟩
theorem fl_X3_24 : zFl RX3 24 3 4 4 := ⟨RX3, TX3, 11, tyX3, rfl, by decide, rfl, zt_of (lw_tb (i := 209) (by decide +kernel)) rfl, rfl, ztX3, by decide, tyX3_ok, nmX3, rfl, trivial, rfl⟩
theorem fl_X6_280 : zFl RX6 280 3 4 4 := ⟨RX3, TX3, 11, tyX3, rfl, by decide, rfl, zt_of (lw_tb (i := 210) (by decide +kernel)) rfl, rfl, ztX3, by decide, tyX3_ok, nmX3, rfl, trivial, rfl⟩
theorem fl_X3_27 : zFl RX3 27 3 5 5 := ⟨RX3, TX3, 11, tyX3, rfl, by decide, rfl, zt_of (lw_tb (i := 211) (by decide +kernel)) rfl, rfl, ztX3, by decide, tyX3_ok, nmX3, rfl, rfl, rfl⟩
theorem fl_X3_31 : zFl RX3 31 3 6 6 := ⟨RX3, TX3, 11, tyX3, rfl, by decide, rfl, zt_of (lw_tb (i := 212) (by decide +kernel)) rfl, rfl, ztX3, by decide, tyX3_ok, nmX3, rfl, rfl, rfl⟩
theorem fl_X3_34 : zFl RX3 34 3 7 7 := ⟨RX3, TX3, 11, tyX3, rfl, by decide, rfl, zt_of (lw_tb (i := 213) (by decide +kernel)) rfl, rfl, ztX3, by decide, tyX3_ok, nmX3, rfl, rfl, rfl⟩
theorem fl_X3_37 : zFl RX3 37 3 8 8 := ⟨RX3, TX3, 11, tyX3, rfl, by decide, rfl, zt_of (lw_tb (i := 214) (by decide +kernel)) rfl, rfl, ztX3, by decide, tyX3_ok, nmX3, rfl, rfl, rfl⟩
theorem fl_X3_40 : zFl RX3 40 3 9 9 := ⟨RX3, TX3, 11, tyX3, rfl, by decide, rfl, zt_of (lw_tb (i := 215) (by decide +kernel)) rfl, rfl, ztX3, by decide, tyX3_ok, nmX3, rfl, rfl, rfl⟩
theorem fl_X6_278 : zFl RX6 278 3 9 9 := ⟨RX3, TX3, 11, tyX3, rfl, by decide, rfl, zt_of (lw_tb (i := 216) (by decide +kernel)) rfl, rfl, ztX3, by decide, tyX3_ok, nmX3, rfl, rfl, rfl⟩
theorem fl_X3_43 : zFl RX3 43 3 10 10 := ⟨RX3, TX3, 11, tyX3, rfl, by decide, rfl, zt_of (lw_tb (i := 217) (by decide +kernel)) rfl, rfl, ztX3, by decide, tyX3_ok, nmX3, rfl, rfl, rfl⟩
theorem fl_X6_279 : zFl RX6 279 3 10 10 := ⟨RX3, TX3, 11, tyX3, rfl, by decide, rfl, zt_of (lw_tb (i := 218) (by decide +kernel)) rfl, rfl, ztX3, by decide, tyX3_ok, nmX3, rfl, rfl, rfl⟩
theorem fl_X2_9 : zFl RX2 9 2 0 0 := ⟨RX2, TX2, 3, tyX2, rfl, by decide, rfl, zt_of (lw_tb (i := 247) (by decide +kernel)) rfl, rfl, ztX2, by decide, tyX2_ok, nmX2, rfl, rfl, rfl⟩
theorem fl_X6_296 : zFl RX6 296 2 0 0 := ⟨RX2, TX2, 3, tyX2, rfl, by decide, rfl, zt_of (lw_tb (i := 248) (by decide +kernel)) rfl, rfl, ztX2, by decide, tyX2_ok, nmX2, rfl, rfl, rfl⟩
theorem fl_X2_15 : zFl RX2 15 2 1 1 := ⟨RX2, TX2, 3, tyX2, rfl, by decide, rfl, zt_of (lw_tb (i := 249) (by decide +kernel)) rfl, rfl, ztX2, by decide, tyX2_ok, nmX2, rfl, rfl, rfl⟩
theorem fl_X3_46 : zFl RX3 46 2 1 1 := ⟨RX2, TX2, 3, tyX2, rfl, by decide, rfl, zt_of (lw_tb (i := 250) (by decide +kernel)) rfl, rfl, ztX2, by decide, tyX2_ok, nmX2, rfl, rfl, rfl⟩
theorem fl_X6_275 : zFl RX6 275 2 1 1 := ⟨RX2, TX2, 3, tyX2, rfl, by decide, rfl, zt_of (lw_tb (i := 251) (by decide +kernel)) rfl, rfl, ztX2, by decide, tyX2_ok, nmX2, rfl, rfl, rfl⟩
theorem fl_X2_18 : zFl RX2 18 2 2 2 := ⟨RX2, TX2, 3, tyX2, rfl, by decide, rfl, zt_of (lw_tb (i := 252) (by decide +kernel)) rfl, rfl, ztX2, by decide, tyX2_ok, nmX2, rfl, trivial, rfl⟩
theorem fl_X3_55 : zFl RX3 55 2 2 2 := ⟨RX2, TX2, 3, tyX2, rfl, by decide, rfl, zt_of (lw_tb (i := 253) (by decide +kernel)) rfl, rfl, ztX2, by decide, tyX2_ok, nmX2, rfl, trivial, rfl⟩
theorem fl_X6_249 : zFl RX6 249 2 2 2 := ⟨RX2, TX2, 3, tyX2, rfl, by decide, rfl, zt_of (lw_tb (i := 254) (by decide +kernel)) rfl, rfl, ztX2, by decide, tyX2_ok, nmX2, rfl, trivial, rfl⟩
theorem fl_X6_10 : zFl RX6 10 6 0 0 := ⟨RX6, TX6, 12, tyX6, rfl, by decide, rfl, zt_of (lw_tb (i := 262) (by decide +kernel)) rfl, rfl, ztX6, by decide, tyX6_ok, nmX6, rfl, trivial, rfl⟩
theorem fl_X6_16 : zFl RX6 16 6 1 1 := ⟨RX6, TX6, 12, tyX6, rfl, by decide, rfl, zt_of (lw_tb (i := 263) (by decide +kernel)) rfl, rfl, ztX6, by decide, tyX6_ok, nmX6, rfl, trivial, rfl⟩
theorem fl_X6_19 : zFl RX6 19 6 2 2 := ⟨RX6, TX6, 12, tyX6, rfl, by decide, rfl, zt_of (lw_tb (i := 264) (by decide +kernel)) rfl, rfl, ztX6, by decide, tyX6_ok, nmX6, rfl, trivial, rfl⟩
theorem fl_X6_22 : zFl RX6 22 6 3 3 := ⟨RX6, TX6, 12, tyX6, rfl, by decide, rfl, zt_of (lw_tb (i := 265) (by decide +kernel)) rfl, rfl, ztX6, by decide, tyX6_ok, nmX6, rfl, rfl, rfl⟩
theorem fl_X6_26 : zFl RX6 26 6 4 4 := ⟨RX6, TX6, 12, tyX6, rfl, by decide, rfl, zt_of (lw_tb (i := 266) (by decide +kernel)) rfl, rfl, ztX6, by decide, tyX6_ok, nmX6, rfl, trivial, rfl⟩
theorem fl_X6_30 : zFl RX6 30 6 5 5 := ⟨RX6, TX6, 12, tyX6, rfl, by decide, rfl, zt_of (lw_tb (i := 267) (by decide +kernel)) rfl, rfl, ztX6, by decide, tyX6_ok, nmX6, rfl, rfl, rfl⟩
theorem fl_X6_36 : zFl RX6 36 6 6 6 := ⟨RX6, TX6, 12, tyX6, rfl, by decide, rfl, zt_of (lw_tb (i := 268) (by decide +kernel)) rfl, rfl, ztX6, by decide, tyX6_ok, nmX6, rfl, trivial, rfl⟩
theorem fl_X6_40 : zFl RX6 40 6 7 7 := ⟨RX6, TX6, 12, tyX6, rfl, by decide, rfl, zt_of (lw_tb (i := 269) (by decide +kernel)) rfl, rfl, ztX6, by decide, tyX6_ok, nmX6, rfl, trivial, rfl⟩
theorem fl_X6_47 : zFl RX6 47 6 8 8 := ⟨RX6, TX6, 12, tyX6, rfl, by decide, rfl, zt_of (lw_tb (i := 270) (by decide +kernel)) rfl, rfl, ztX6, by decide, tyX6_ok, nmX6, rfl, trivial, rfl⟩
theorem fl_X6_54 : zFl RX6 54 6 9 9 := ⟨RX6, TX6, 12, tyX6, rfl, by decide, rfl, zt_of (lw_tb (i := 271) (by decide +kernel)) rfl, rfl, ztX6, by decide, tyX6_ok, nmX6, rfl, trivial, rfl⟩
theorem fl_X6_61 : zFl RX6 61 6 10 10 := ⟨RX6, TX6, 12, tyX6, rfl, by decide, rfl, zt_of (lw_tb (i := 272) (by decide +kernel)) rfl, rfl, ztX6, by decide, tyX6_ok, nmX6, rfl, trivial, rfl⟩
theorem fl_X6_65 : zFl RX6 65 6 11 11 := ⟨RX6, TX6, 12, tyX6, rfl, by decide, rfl, zt_of (lw_tb (i := 273) (by decide +kernel)) rfl, rfl, ztX6, by decide, tyX6_ok, nmX6, rfl, trivial, rfl⟩
theorem fs_X6_73 : Cond.fieldLink RX6 73 "FuelTurns" "PLAN_LEAST" "[I" ∈ zt := zt_of (lw_tb (i := 306) (by decide +kernel)) rfl
theorem fs_X6_76 : Cond.fieldLink RX6 76 "FuelTurns" "PLAN_MOST" "[I" ∈ zt := zt_of (lw_tb (i := 308) (by decide +kernel)) rfl
theorem fs_X4_34 : Cond.fieldLink RX4 34 "FuelTurns$Warning" "ABOVE" "[I" ∈ zt := zt_of (lw_tb (i := 476) (by decide +kernel)) rfl
theorem fl_X7_7 : zFl RX7 7 7 0 0 := ⟨RX7, TX7, 23, tyX7, rfl, by decide, rfl, zt_of (lw_tb (i := 811) (by decide +kernel)) rfl, rfl, ztX7, by decide, tyX7_ok, nmX7, rfl, trivial, rfl⟩
theorem fl_X7_13 : zFl RX7 13 7 1 1 := ⟨RX7, TX7, 23, tyX7, rfl, by decide, rfl, zt_of (lw_tb (i := 812) (by decide +kernel)) rfl, rfl, ztX7, by decide, tyX7_ok, nmX7, rfl, trivial, rfl⟩
theorem fl_X7_319 : zFl RX7 319 7 2 2 := ⟨RX7, TX7, 23, tyX7, rfl, by decide, rfl, zt_of (lw_tb (i := 813) (by decide +kernel)) rfl, rfl, ztX7, by decide, tyX7_ok, nmX7, rfl, rfl, rfl⟩
theorem fl_X7_16 : zFl RX7 16 7 3 3 := ⟨RX7, TX7, 23, tyX7, rfl, by decide, rfl, zt_of (lw_tb (i := 814) (by decide +kernel)) rfl, rfl, ztX7, by decide, tyX7_ok, nmX7, rfl, trivial, rfl⟩
theorem fl_X7_20 : zFl RX7 20 7 4 4 := ⟨RX7, TX7, 23, tyX7, rfl, by decide, rfl, zt_of (lw_tb (i := 815) (by decide +kernel)) rfl, rfl, ztX7, by decide, tyX7_ok, nmX7, rfl, trivial, rfl⟩
theorem fl_X7_188 : zFl RX7 188 7 5 5 := ⟨RX7, TX7, 23, tyX7, rfl, by decide, rfl, zt_of (lw_tb (i := 816) (by decide +kernel)) rfl, rfl, ztX7, by decide, tyX7_ok, nmX7, rfl, rfl, rfl⟩
theorem fl_X7_192 : zFl RX7 192 7 6 6 := ⟨RX7, TX7, 23, tyX7, rfl, by decide, rfl, zt_of (lw_tb (i := 817) (by decide +kernel)) rfl, rfl, ztX7, by decide, tyX7_ok, nmX7, rfl, rfl, rfl⟩
theorem fl_X7_223 : zFl RX7 223 7 7 7 := ⟨RX7, TX7, 23, tyX7, rfl, by decide, rfl, zt_of (lw_tb (i := 818) (by decide +kernel)) rfl, rfl, ztX7, by decide, tyX7_ok, nmX7, rfl, rfl, rfl⟩
theorem fl_X7_198 : zFl RX7 198 7 8 8 := ⟨RX7, TX7, 23, tyX7, rfl, by decide, rfl, zt_of (lw_tb (i := 819) (by decide +kernel)) rfl, rfl, ztX7, by decide, tyX7_ok, nmX7, rfl, rfl, rfl⟩
theorem fl_X7_23 : zFl RX7 23 7 9 9 := ⟨RX7, TX7, 23, tyX7, rfl, by decide, rfl, zt_of (lw_tb (i := 820) (by decide +kernel)) rfl, rfl, ztX7, by decide, tyX7_ok, nmX7, rfl, trivial, rfl⟩
theorem fl_X7_26 : zFl RX7 26 7 10 10 := ⟨RX7, TX7, 23, tyX7, rfl, by decide, rfl, zt_of (lw_tb (i := 821) (by decide +kernel)) rfl, rfl, ztX7, by decide, tyX7_ok, nmX7, rfl, trivial, rfl⟩
theorem fl_X7_29 : zFl RX7 29 7 11 11 := ⟨RX7, TX7, 23, tyX7, rfl, by decide, rfl, zt_of (lw_tb (i := 822) (by decide +kernel)) rfl, rfl, ztX7, by decide, tyX7_ok, nmX7, rfl, trivial, rfl⟩
theorem fl_X7_32 : zFl RX7 32 7 12 12 := ⟨RX7, TX7, 23, tyX7, rfl, by decide, rfl, zt_of (lw_tb (i := 823) (by decide +kernel)) rfl, rfl, ztX7, by decide, tyX7_ok, nmX7, rfl, trivial, rfl⟩
theorem fl_X7_35 : zFl RX7 35 7 13 13 := ⟨RX7, TX7, 23, tyX7, rfl, by decide, rfl, zt_of (lw_tb (i := 824) (by decide +kernel)) rfl, rfl, ztX7, by decide, tyX7_ok, nmX7, rfl, trivial, rfl⟩
theorem fl_X7_38 : zFl RX7 38 7 14 14 := ⟨RX7, TX7, 23, tyX7, rfl, by decide, rfl, zt_of (lw_tb (i := 825) (by decide +kernel)) rfl, rfl, ztX7, by decide, tyX7_ok, nmX7, rfl, trivial, rfl⟩
theorem fl_X7_41 : zFl RX7 41 7 15 15 := ⟨RX7, TX7, 23, tyX7, rfl, by decide, rfl, zt_of (lw_tb (i := 826) (by decide +kernel)) rfl, rfl, ztX7, by decide, tyX7_ok, nmX7, rfl, trivial, rfl⟩
theorem fl_X7_287 : zFl RX7 287 7 16 16 := ⟨RX7, TX7, 23, tyX7, rfl, by decide, rfl, zt_of (lw_tb (i := 827) (by decide +kernel)) rfl, rfl, ztX7, by decide, tyX7_ok, nmX7, rfl, rfl, rfl⟩
theorem fl_X7_44 : zFl RX7 44 7 17 17 := ⟨RX7, TX7, 23, tyX7, rfl, by decide, rfl, zt_of (lw_tb (i := 828) (by decide +kernel)) rfl, rfl, ztX7, by decide, tyX7_ok, nmX7, rfl, trivial, rfl⟩
theorem fl_X7_47 : zFl RX7 47 7 18 18 := ⟨RX7, TX7, 23, tyX7, rfl, by decide, rfl, zt_of (lw_tb (i := 829) (by decide +kernel)) rfl, rfl, ztX7, by decide, tyX7_ok, nmX7, rfl, trivial, rfl⟩
theorem fl_X7_50 : zFl RX7 50 7 19 19 := ⟨RX7, TX7, 23, tyX7, rfl, by decide, rfl, zt_of (lw_tb (i := 830) (by decide +kernel)) rfl, rfl, ztX7, by decide, tyX7_ok, nmX7, rfl, trivial, rfl⟩
theorem fl_X7_53 : zFl RX7 53 7 20 20 := ⟨RX7, TX7, 23, tyX7, rfl, by decide, rfl, zt_of (lw_tb (i := 831) (by decide +kernel)) rfl, rfl, ztX7, by decide, tyX7_ok, nmX7, rfl, trivial, rfl⟩
theorem fl_X7_56 : zFl RX7 56 7 21 21 := ⟨RX7, TX7, 23, tyX7, rfl, by decide, rfl, zt_of (lw_tb (i := 832) (by decide +kernel)) rfl, rfl, ztX7, by decide, tyX7_ok, nmX7, rfl, trivial, rfl⟩
theorem fl_X7_59 : zFl RX7 59 7 22 22 := ⟨RX7, TX7, 23, tyX7, rfl, by decide, rfl, zt_of (lw_tb (i := 833) (by decide +kernel)) rfl, rfl, ztX7, by decide, tyX7_ok, nmX7, rfl, trivial, rfl⟩
theorem ml_L_9 : Cond.methodLink RL 9 yX6_init ∈ zt := zt_of (lw_tb (i := 13) (by decide +kernel)) rfl
theorem ml_X6_9 : Cond.methodLink RX6 9 yX5_init ∈ zt := zt_of (lw_tb (i := 21) (by decide +kernel)) rfl
theorem ml_L_13 : Cond.methodLink RL 13 yX6_plan ∈ zt := zt_of (lw_tb (i := 299) (by decide +kernel)) rfl
theorem ml_X6_69 : Cond.methodLink RX6 69 yX6_isOutside ∈ zt := zt_of (lw_tb (i := 303) (by decide +kernel)) rfl
theorem ml_X6_80 : Cond.methodLink RX6 80 yX6_finding ∈ zt := zt_of (lw_tb (i := 311) (by decide +kernel)) rfl
theorem ml_L_18 : Cond.methodLink RL 18 yX6_move ∈ zt := zt_of (lw_tb (i := 315) (by decide +kernel)) rfl
theorem ml_X6_87 : Cond.methodLink RX6 87 yX6_isNoMove ∈ zt := zt_of (lw_tb (i := 319) (by decide +kernel)) rfl
theorem ml_X6_91 : Cond.methodLink RX6 91 yX5_canShift ∈ zt := zt_of (lw_tb (i := 322) (by decide +kernel)) rfl
theorem ml_X5_77 : Cond.methodLink RX5 77 yJ9_abs_0f7a4 ∈ zt := zt_of (lw_tb (i := 326) (by decide +kernel)) rfl
theorem ml_X6_95 : Cond.methodLink RX6 95 yX5_shift ∈ zt := zt_of (lw_tb (i := 330) (by decide +kernel)) rfl
theorem ml_L_23 : Cond.methodLink RL 23 yX6_may ∈ zt := zt_of (lw_tb (i := 334) (by decide +kernel)) rfl
theorem ml_L_27 : Cond.methodLink RL 27 yX6_days ∈ zt := zt_of (lw_tb (i := 338) (by decide +kernel)) rfl
theorem ml_X6_105 : Cond.methodLink RX6 105 yX5_endDay ∈ zt := zt_of (lw_tb (i := 342) (by decide +kernel)) rfl
theorem ml_X5_83 : Cond.methodLink RX5 83 yX5_useAt ∈ zt := zt_of (lw_tb (i := 346) (by decide +kernel)) rfl
theorem ml_X5_80 : Cond.methodLink RX5 80 yJ9_max_7cf53 ∈ zt := zt_of (lw_tb (i := 350) (by decide +kernel)) rfl
theorem ml_X5_86 : Cond.methodLink RX5 86 yX5_dangerOn ∈ zt := zt_of (lw_tb (i := 353) (by decide +kernel)) rfl
theorem ml_X5_67 : Cond.methodLink RX5 67 yX4_strikeAt ∈ zt := zt_of (lw_tb (i := 357) (by decide +kernel)) rfl
theorem ml_X5_71 : Cond.methodLink RX5 71 yJ9_min_7cf53 ∈ zt := zt_of (lw_tb (i := 362) (by decide +kernel)) rfl
theorem ml_L_31 : Cond.methodLink RL 31 yX6_runs ∈ zt := zt_of (lw_tb (i := 365) (by decide +kernel)) rfl
theorem ml_X6_108 : Cond.methodLink RX6 108 yX5_moveBy ∈ zt := zt_of (lw_tb (i := 369) (by decide +kernel)) rfl
theorem ml_X5_91 : Cond.methodLink RX5 91 yX1_told ∈ zt := zt_of (lw_tb (i := 373) (by decide +kernel)) rfl
theorem ml_X1_62 : Cond.methodLink RX1 62 yX5_hasRule ∈ zt := zt_of (lw_tb (i := 377) (by decide +kernel)) rfl
theorem ml_X1_68 : Cond.methodLink RX1 68 yX1_learn ∈ zt := zt_of (lw_tb (i := 381) (by decide +kernel)) rfl
theorem ml_X1_83 : Cond.methodLink RX1 83 yX5_nextWarned ∈ zt := zt_of (lw_tb (i := 385) (by decide +kernel)) rfl
theorem ml_X1_93 : Cond.methodLink RX1 93 yX5_dangerOn ∈ zt := zt_of (lw_tb (i := 389) (by decide +kernel)) rfl
theorem ml_X1_100 : Cond.methodLink RX1 100 yX5_openOnes ∈ zt := zt_of (lw_tb (i := 390) (by decide +kernel)) rfl
theorem ml_X5_60 : Cond.methodLink RX5 60 yX5_isOpen ∈ zt := zt_of (lw_tb (i := 394) (by decide +kernel)) rfl
theorem ml_X1_79 : Cond.methodLink RX1 79 yX1_readText ∈ zt := zt_of (lw_tb (i := 398) (by decide +kernel)) rfl
theorem ml_X1_103 : Cond.methodLink RX1 103 yX1_beginSum ∈ zt := zt_of (lw_tb (i := 402) (by decide +kernel)) rfl
theorem ml_X1_107 : Cond.methodLink RX1 107 yX1_endNumber ∈ zt := zt_of (lw_tb (i := 406) (by decide +kernel)) rfl
theorem ml_X1_123 : Cond.methodLink RX1 123 yX1_endPart ∈ zt := zt_of (lw_tb (i := 410) (by decide +kernel)) rfl
theorem ml_X1_110 : Cond.methodLink RX1 110 yX1_takesDigit ∈ zt := zt_of (lw_tb (i := 414) (by decide +kernel)) rfl
theorem ml_X1_114 : Cond.methodLink RX1 114 yX1_takesInPart ∈ zt := zt_of (lw_tb (i := 418) (by decide +kernel)) rfl
theorem ml_X1_126 : Cond.methodLink RX1 126 yX1_nameOf ∈ zt := zt_of (lw_tb (i := 422) (by decide +kernel)) rfl
theorem ml_X1_117 : Cond.methodLink RX1 117 yX1_takesBehindPart ∈ zt := zt_of (lw_tb (i := 425) (by decide +kernel)) rfl
theorem ml_X1_120 : Cond.methodLink RX1 120 yX1_takesBehindSum ∈ zt := zt_of (lw_tb (i := 429) (by decide +kernel)) rfl
theorem ml_X1_130 : Cond.methodLink RX1 130 yX1_placeBehind ∈ zt := zt_of (lw_tb (i := 433) (by decide +kernel)) rfl
theorem ml_X1_133 : Cond.methodLink RX1 133 yX1_comparesRight ∈ zt := zt_of (lw_tb (i := 437) (by decide +kernel)) rfl
theorem ml_X5_97 : Cond.methodLink RX5 97 yX5_canShift ∈ zt := zt_of (lw_tb (i := 441) (by decide +kernel)) rfl
theorem ml_L_35 : Cond.methodLink RL 35 yX6_thing ∈ zt := zt_of (lw_tb (i := 442) (by decide +kernel)) rfl
theorem ml_L_40 : Cond.methodLink RL 40 yX6_warn ∈ zt := zt_of (lw_tb (i := 446) (by decide +kernel)) rfl
theorem ml_X6_121 : Cond.methodLink RX6 121 yX6_isNoHeight ∈ zt := zt_of (lw_tb (i := 450) (by decide +kernel)) rfl
theorem ml_X6_133 : Cond.methodLink RX6 133 yX4_begin ∈ zt := zt_of (lw_tb (i := 455) (by decide +kernel)) rfl
theorem ml_L_45 : Cond.methodLink RL 45 yX6_of ∈ zt := zt_of (lw_tb (i := 459) (by decide +kernel)) rfl
theorem ml_X6_137 : Cond.methodLink RX6 137 yX6_isNoWarning ∈ zt := zt_of (lw_tb (i := 463) (by decide +kernel)) rfl
theorem ml_X6_158 : Cond.methodLink RX6 158 yX5_isOpen ∈ zt := zt_of (lw_tb (i := 467) (by decide +kernel)) rfl
theorem ml_L_49 : Cond.methodLink RL 49 yX6_as ∈ zt := zt_of (lw_tb (i := 468) (by decide +kernel)) rfl
theorem ml_X6_162 : Cond.methodLink RX6 162 yX4_isOneOf ∈ zt := zt_of (lw_tb (i := 472) (by decide +kernel)) rfl
theorem ml_L_53 : Cond.methodLink RL 53 yX6_struck ∈ zt := zt_of (lw_tb (i := 479) (by decide +kernel)) rfl
theorem ml_X6_166 : Cond.methodLink RX6 166 yX4_strikeAt ∈ zt := zt_of (lw_tb (i := 483) (by decide +kernel)) rfl
theorem ml_L_57 : Cond.methodLink RL 57 yX6_look ∈ zt := zt_of (lw_tb (i := 484) (by decide +kernel)) rfl
theorem ml_X6_169 : Cond.methodLink RX6 169 yX6_isNoSureness ∈ zt := zt_of (lw_tb (i := 488) (by decide +kernel)) rfl
theorem ml_X6_172 : Cond.methodLink RX6 172 yX4_chanceBehind ∈ zt := zt_of (lw_tb (i := 491) (by decide +kernel)) rfl
theorem ml_L_62 : Cond.methodLink RL 62 yX6_think ∈ zt := zt_of (lw_tb (i := 496) (by decide +kernel)) rfl
theorem ml_L_66 : Cond.methodLink RL 66 yX6_danger ∈ zt := zt_of (lw_tb (i := 500) (by decide +kernel)) rfl
theorem ml_X6_176 : Cond.methodLink RX6 176 yX5_dangerOn ∈ zt := zt_of (lw_tb (i := 504) (by decide +kernel)) rfl
theorem ml_L_70 : Cond.methodLink RL 70 yX6_safest ∈ zt := zt_of (lw_tb (i := 505) (by decide +kernel)) rfl
theorem ml_L_74 : Cond.methodLink RL 74 yX6_open ∈ zt := zt_of (lw_tb (i := 509) (by decide +kernel)) rfl
theorem ml_L_79 : Cond.methodLink RL 79 yX6_feed ∈ zt := zt_of (lw_tb (i := 513) (by decide +kernel)) rfl
theorem ml_L_83 : Cond.methodLink RL 83 yX6_wipe ∈ zt := zt_of (lw_tb (i := 517) (by decide +kernel)) rfl
theorem ml_L_87 : Cond.methodLink RL 87 yX6_rule ∈ zt := zt_of (lw_tb (i := 521) (by decide +kernel)) rfl
theorem ml_X6_180 : Cond.methodLink RX6 180 yX1_faultOf ∈ zt := zt_of (lw_tb (i := 525) (by decide +kernel)) rfl
theorem ml_L_91 : Cond.methodLink RL 91 yX6_drift ∈ zt := zt_of (lw_tb (i := 532) (by decide +kernel)) rfl
theorem ml_X6_196 : Cond.methodLink RX6 196 yX5_hasRule ∈ zt := zt_of (lw_tb (i := 536) (by decide +kernel)) rfl
theorem ml_L_95 : Cond.methodLink RL 95 yX6_says ∈ zt := zt_of (lw_tb (i := 537) (by decide +kernel)) rfl
theorem ml_X6_200 : Cond.methodLink RX6 200 yX1_told ∈ zt := zt_of (lw_tb (i := 541) (by decide +kernel)) rfl
theorem ml_L_99 : Cond.methodLink RL 99 yX6_best ∈ zt := zt_of (lw_tb (i := 542) (by decide +kernel)) rfl
theorem ml_X6_204 : Cond.methodLink RX6 204 yX0_make ∈ zt := zt_of (lw_tb (i := 546) (by decide +kernel)) rfl
theorem ml_X0_39 : Cond.methodLink RX0 39 yJ9_min_7cf53 ∈ zt := zt_of (lw_tb (i := 550) (by decide +kernel)) rfl
theorem ml_X0_45 : Cond.methodLink RX0 45 yX5_stepsLeft ∈ zt := zt_of (lw_tb (i := 551) (by decide +kernel)) rfl
theorem ml_X0_51 : Cond.methodLink RX0 51 yX0_stay ∈ zt := zt_of (lw_tb (i := 555) (by decide +kernel)) rfl
theorem ml_X0_68 : Cond.methodLink RX0 68 yX5_worthOf ∈ zt := zt_of (lw_tb (i := 559) (by decide +kernel)) rfl
theorem ml_X0_72 : Cond.methodLink RX0 72 yX0_cell ∈ zt := zt_of (lw_tb (i := 564) (by decide +kernel)) rfl
theorem ml_X0_78 : Cond.methodLink RX0 78 yX0_valueFrom ∈ zt := zt_of (lw_tb (i := 568) (by decide +kernel)) rfl
theorem ml_X0_55 : Cond.methodLink RX0 55 yX0_spread ∈ zt := zt_of (lw_tb (i := 572) (by decide +kernel)) rfl
theorem ml_X0_82 : Cond.methodLink RX0 82 yX0_step ∈ zt := zt_of (lw_tb (i := 576) (by decide +kernel)) rfl
theorem ml_X0_86 : Cond.methodLink RX0 86 yJ9_max_f86c9 ∈ zt := zt_of (lw_tb (i := 580) (by decide +kernel)) rfl
theorem ml_X0_62 : Cond.methodLink RX0 62 yX0_follow ∈ zt := zt_of (lw_tb (i := 583) (by decide +kernel)) rfl
theorem ml_X0_90 : Cond.methodLink RX0 90 yX0_firstMove ∈ zt := zt_of (lw_tb (i := 587) (by decide +kernel)) rfl
theorem ml_X0_97 : Cond.methodLink RX0 97 yX0_keepsValue ∈ zt := zt_of (lw_tb (i := 591) (by decide +kernel)) rfl
theorem ml_X0_93 : Cond.methodLink RX0 93 yJ9_abs_0f7a4 ∈ zt := zt_of (lw_tb (i := 595) (by decide +kernel)) rfl
theorem ml_L_104 : Cond.methodLink RL 104 yX6_turn ∈ zt := zt_of (lw_tb (i := 596) (by decide +kernel)) rfl
theorem ml_L_108 : Cond.methodLink RL 108 yX6_rest ∈ zt := zt_of (lw_tb (i := 600) (by decide +kernel)) rfl
theorem ml_X6_220 : Cond.methodLink RX6 220 yX5_worthOf ∈ zt := zt_of (lw_tb (i := 604) (by decide +kernel)) rfl
theorem ml_L_112 : Cond.methodLink RL 112 yX6_home ∈ zt := zt_of (lw_tb (i := 605) (by decide +kernel)) rfl
theorem ml_X6_224 : Cond.methodLink RX6 224 yX6_firstCalm ∈ zt := zt_of (lw_tb (i := 609) (by decide +kernel)) rfl
theorem ml_L_116 : Cond.methodLink RL 116 yX6_know ∈ zt := zt_of (lw_tb (i := 614) (by decide +kernel)) rfl
theorem ml_X6_228 : Cond.methodLink RX6 228 yX5_become ∈ zt := zt_of (lw_tb (i := 618) (by decide +kernel)) rfl
theorem ml_X5_53 : Cond.methodLink RX5 53 yX4_become ∈ zt := zt_of (lw_tb (i := 623) (by decide +kernel)) rfl
theorem ml_X4_30 : Cond.methodLink RX4 30 yX4_begin ∈ zt := zt_of (lw_tb (i := 627) (by decide +kernel)) rfl
theorem ml_X6_232 : Cond.methodLink RX6 232 yX4_chanceIfItCanBe ∈ zt := zt_of (lw_tb (i := 628) (by decide +kernel)) rfl
theorem ml_X4_41 : Cond.methodLink RX4 41 yX4_chanceBehind ∈ zt := zt_of (lw_tb (i := 632) (by decide +kernel)) rfl
theorem ml_X6_235 : Cond.methodLink RX6 235 yX4_chanceToTell ∈ zt := zt_of (lw_tb (i := 633) (by decide +kernel)) rfl
theorem ml_L_121 : Cond.methodLink RL 121 yX6_life ∈ zt := zt_of (lw_tb (i := 639) (by decide +kernel)) rfl
theorem ml_X6_240 : Cond.methodLink RX6 240 yX6_foresee ∈ zt := zt_of (lw_tb (i := 643) (by decide +kernel)) rfl
theorem ml_X6_243 : Cond.methodLink RX6 243 yX6_dayOfStrike ∈ zt := zt_of (lw_tb (i := 647) (by decide +kernel)) rfl
theorem ml_L_125 : Cond.methodLink RL 125 yX6_lives ∈ zt := zt_of (lw_tb (i := 652) (by decide +kernel)) rfl
theorem ml_L_129 : Cond.methodLink RL 129 yX6_rests ∈ zt := zt_of (lw_tb (i := 656) (by decide +kernel)) rfl
theorem ml_X6_246 : Cond.methodLink RX6 246 yX6_findingOfPair ∈ zt := zt_of (lw_tb (i := 660) (by decide +kernel)) rfl
theorem ml_X6_285 : Cond.methodLink RX6 285 yX6_findingOfSheet ∈ zt := zt_of (lw_tb (i := 664) (by decide +kernel)) rfl
theorem ml_X6_261 : Cond.methodLink RX6 261 yX6_isNoSheet ∈ zt := zt_of (lw_tb (i := 668) (by decide +kernel)) rfl
theorem ml_X6_292 : Cond.methodLink RX6 292 yX2_isMissing ∈ zt := zt_of (lw_tb (i := 671) (by decide +kernel)) rfl
theorem ml_X6_317 : Cond.methodLink RX6 317 yX2_isWithin ∈ zt := zt_of (lw_tb (i := 677) (by decide +kernel)) rfl
theorem ml_X6_253 : Cond.methodLink RX6 253 yX6_restsOf ∈ zt := zt_of (lw_tb (i := 681) (by decide +kernel)) rfl
theorem ml_L_133 : Cond.methodLink RL 133 yX6_both ∈ zt := zt_of (lw_tb (i := 684) (by decide +kernel)) rfl
theorem ml_X6_257 : Cond.methodLink RX6 257 yX6_mostTogether ∈ zt := zt_of (lw_tb (i := 688) (by decide +kernel)) rfl
theorem ml_X6_323 : Cond.methodLink RX6 323 yJ9_max_f86c9 ∈ zt := zt_of (lw_tb (i := 692) (by decide +kernel)) rfl
theorem ml_L_137 : Cond.methodLink RL 137 yX6_swarm ∈ zt := zt_of (lw_tb (i := 693) (by decide +kernel)) rfl
theorem ml_X6_264 : Cond.methodLink RX6 264 yX6_findingOfRow ∈ zt := zt_of (lw_tb (i := 697) (by decide +kernel)) rfl
theorem ml_X6_268 : Cond.methodLink RX6 268 yX3_load ∈ zt := zt_of (lw_tb (i := 700) (by decide +kernel)) rfl
theorem ml_X3_49 : Cond.methodLink RX3 49 yJ9_min_7cf53 ∈ zt := zt_of (lw_tb (i := 704) (by decide +kernel)) rfl
theorem ml_X3_59 : Cond.methodLink RX3 59 yX3_weigh ∈ zt := zt_of (lw_tb (i := 705) (by decide +kernel)) rfl
theorem ml_X3_74 : Cond.methodLink RX3 74 yX3_costBehind ∈ zt := zt_of (lw_tb (i := 709) (by decide +kernel)) rfl
theorem ml_X3_84 : Cond.methodLink RX3 84 yJ9_max_7cf53 ∈ zt := zt_of (lw_tb (i := 713) (by decide +kernel)) rfl
theorem ml_X3_77 : Cond.methodLink RX3 77 yX3_costOf ∈ zt := zt_of (lw_tb (i := 715) (by decide +kernel)) rfl
theorem ml_X3_81 : Cond.methodLink RX3 81 yJ9_abs_0f7a4 ∈ zt := zt_of (lw_tb (i := 718) (by decide +kernel)) rfl
theorem ml_X3_63 : Cond.methodLink RX3 63 yX3_gather ∈ zt := zt_of (lw_tb (i := 719) (by decide +kernel)) rfl
theorem ml_X3_66 : Cond.methodLink RX3 66 yX3_canBe ∈ zt := zt_of (lw_tb (i := 723) (by decide +kernel)) rfl
theorem ml_X3_70 : Cond.methodLink RX3 70 yX3_follow ∈ zt := zt_of (lw_tb (i := 727) (by decide +kernel)) rfl
theorem ml_X3_87 : Cond.methodLink RX3 87 yX3_firstMove ∈ zt := zt_of (lw_tb (i := 731) (by decide +kernel)) rfl
theorem ml_X3_90 : Cond.methodLink RX3 90 yX3_fits ∈ zt := zt_of (lw_tb (i := 735) (by decide +kernel)) rfl
theorem ml_X6_272 : Cond.methodLink RX6 272 yX3_canBe ∈ zt := zt_of (lw_tb (i := 739) (by decide +kernel)) rfl
theorem ml_L_142 : Cond.methodLink RL 142 yX6_sheet ∈ zt := zt_of (lw_tb (i := 740) (by decide +kernel)) rfl
theorem ml_X6_282 : Cond.methodLink RX6 282 yX2_begin ∈ zt := zt_of (lw_tb (i := 744) (by decide +kernel)) rfl
theorem ml_X2_22 : Cond.methodLink RX2 22 yX2_isMissing ∈ zt := zt_of (lw_tb (i := 748) (by decide +kernel)) rfl
theorem ml_L_148 : Cond.methodLink RL 148 yX6_write ∈ zt := zt_of (lw_tb (i := 749) (by decide +kernel)) rfl
theorem ml_X6_288 : Cond.methodLink RX6 288 yX2_put ∈ zt := zt_of (lw_tb (i := 753) (by decide +kernel)) rfl
theorem ml_L_153 : Cond.methodLink RL 153 yX6_copy ∈ zt := zt_of (lw_tb (i := 757) (by decide +kernel)) rfl
theorem ml_X6_299 : Cond.methodLink RX6 299 yX2_hasFrom ∈ zt := zt_of (lw_tb (i := 761) (by decide +kernel)) rfl
theorem ml_L_158 : Cond.methodLink RL 158 yX6_turns ∈ zt := zt_of (lw_tb (i := 765) (by decide +kernel)) rfl
theorem ml_L_162 : Cond.methodLink RL 162 yX6_read ∈ zt := zt_of (lw_tb (i := 771) (by decide +kernel)) rfl
theorem ml_L_166 : Cond.methodLink RL 166 yX6_image ∈ zt := zt_of (lw_tb (i := 775) (by decide +kernel)) rfl
theorem ml_L_170 : Cond.methodLink RL 170 yX6_undo ∈ zt := zt_of (lw_tb (i := 779) (by decide +kernel)) rfl
theorem ml_L_174 : Cond.methodLink RL 174 yX6_tear ∈ zt := zt_of (lw_tb (i := 783) (by decide +kernel)) rfl
theorem ml_L_178 : Cond.methodLink RL 178 yX6_count ∈ zt := zt_of (lw_tb (i := 787) (by decide +kernel)) rfl
theorem ml_X6_307 : Cond.methodLink RX6 307 yX5_openOnes ∈ zt := zt_of (lw_tb (i := 791) (by decide +kernel)) rfl
theorem ml_X6_311 : Cond.methodLink RX6 311 yX5_allLooks ∈ zt := zt_of (lw_tb (i := 792) (by decide +kernel)) rfl
theorem ml_X6_314 : Cond.methodLink RX6 314 yX5_nextWarned ∈ zt := zt_of (lw_tb (i := 796) (by decide +kernel)) rfl
theorem ml_L_182 : Cond.methodLink RL 182 yX6_status ∈ zt := zt_of (lw_tb (i := 797) (by decide +kernel)) rfl
theorem ml_L_12 : Cond.methodLink RL 12 yX7_init ∈ zt := zt_of (lw_tb (i := 803) (by decide +kernel)) rfl
theorem ml_L_17 : Cond.methodLink RL 17 yX7_plan ∈ zt := zt_of (lw_tb (i := 881) (by decide +kernel)) rfl
theorem ml_X7_85 : Cond.methodLink RX7 85 yX7_in ∈ zt := zt_of (lw_tb (i := 886) (by decide +kernel)) rfl
theorem ml_X7_89 : Cond.methodLink RX7 89 yX7_mostOf ∈ zt := zt_of (lw_tb (i := 889) (by decide +kernel)) rfl
theorem ml_X7_93 : Cond.methodLink RX7 93 yX7_finding ∈ zt := zt_of (lw_tb (i := 896) (by decide +kernel)) rfl
theorem ml_X7_71 : Cond.methodLink RX7 71 yX7_its ∈ zt := zt_of (lw_tb (i := 901) (by decide +kernel)) rfl
theorem ml_L_22 : Cond.methodLink RL 22 yX7_move ∈ zt := zt_of (lw_tb (i := 905) (by decide +kernel)) rfl
theorem ml_X7_107 : Cond.methodLink RX7 107 yX7_isMove ∈ zt := zt_of (lw_tb (i := 909) (by decide +kernel)) rfl
theorem ml_X7_111 : Cond.methodLink RX7 111 yX7_height ∈ zt := zt_of (lw_tb (i := 914) (by decide +kernel)) rfl
theorem ml_X7_115 : Cond.methodLink RX7 115 yX7_fuel ∈ zt := zt_of (lw_tb (i := 918) (by decide +kernel)) rfl
theorem ml_X7_118 : Cond.methodLink RX7 118 yX7_can ∈ zt := zt_of (lw_tb (i := 922) (by decide +kernel)) rfl
theorem ml_X7_100 : Cond.methodLink RX7 100 yX7_size ∈ zt := zt_of (lw_tb (i := 928) (by decide +kernel)) rfl
theorem ml_X7_122 : Cond.methodLink RX7 122 yX7_goes ∈ zt := zt_of (lw_tb (i := 931) (by decide +kernel)) rfl
theorem ml_L_26 : Cond.methodLink RL 26 yX7_may ∈ zt := zt_of (lw_tb (i := 935) (by decide +kernel)) rfl
theorem ml_L_30 : Cond.methodLink RL 30 yX7_days ∈ zt := zt_of (lw_tb (i := 939) (by decide +kernel)) rfl
theorem ml_X7_143 : Cond.methodLink RX7 143 yX7_go ∈ zt := zt_of (lw_tb (i := 943) (by decide +kernel)) rfl
theorem ml_X7_129 : Cond.methodLink RX7 129 yX7_today ∈ zt := zt_of (lw_tb (i := 947) (by decide +kernel)) rfl
theorem ml_X7_136 : Cond.methodLink RX7 136 yX7_movesBy ∈ zt := zt_of (lw_tb (i := 951) (by decide +kernel)) rfl
theorem ml_X7_248 : Cond.methodLink RX7 248 yX7_told ∈ zt := zt_of (lw_tb (i := 955) (by decide +kernel)) rfl
theorem ml_X7_239 : Cond.methodLink RX7 239 yX7_nextDay ∈ zt := zt_of (lw_tb (i := 959) (by decide +kernel)) rfl
theorem ml_X7_147 : Cond.methodLink RX7 147 yX7_of1 ∈ zt := zt_of (lw_tb (i := 963) (by decide +kernel)) rfl
theorem ml_X7_132 : Cond.methodLink RX7 132 yX7_dangerAt ∈ zt := zt_of (lw_tb (i := 967) (by decide +kernel)) rfl
theorem ml_X7_170 : Cond.methodLink RX7 170 yX7_struckBy ∈ zt := zt_of (lw_tb (i := 971) (by decide +kernel)) rfl
theorem ml_X7_161 : Cond.methodLink RX7 161 yX7_plain ∈ zt := zt_of (lw_tb (i := 975) (by decide +kernel)) rfl
theorem ml_X7_164 : Cond.methodLink RX7 164 yX7_close ∈ zt := zt_of (lw_tb (i := 978) (by decide +kernel)) rfl
theorem ml_X7_242 : Cond.methodLink RX7 242 yX7_openMany ∈ zt := zt_of (lw_tb (i := 982) (by decide +kernel)) rfl
theorem ml_X7_156 : Cond.methodLink RX7 156 yX7_isOpen ∈ zt := zt_of (lw_tb (i := 986) (by decide +kernel)) rfl
theorem ml_X7_245 : Cond.methodLink RX7 245 yX7_joined ∈ zt := zt_of (lw_tb (i := 990) (by decide +kernel)) rfl
theorem ml_X7_140 : Cond.methodLink RX7 140 yX7_ends ∈ zt := zt_of (lw_tb (i := 993) (by decide +kernel)) rfl
theorem ml_X7_126 : Cond.methodLink RX7 126 yX7_useAt ∈ zt := zt_of (lw_tb (i := 997) (by decide +kernel)) rfl
theorem ml_L_34 : Cond.methodLink RL 34 yX7_runs ∈ zt := zt_of (lw_tb (i := 1001) (by decide +kernel)) rfl
theorem ml_L_39 : Cond.methodLink RL 39 yX7_thing ∈ zt := zt_of (lw_tb (i := 1005) (by decide +kernel)) rfl
theorem ml_L_44 : Cond.methodLink RL 44 yX7_warn ∈ zt := zt_of (lw_tb (i := 1009) (by decide +kernel)) rfl
theorem ml_L_48 : Cond.methodLink RL 48 yX7_of ∈ zt := zt_of (lw_tb (i := 1013) (by decide +kernel)) rfl
theorem ml_X7_150 : Cond.methodLink RX7 150 yX7_isWarning ∈ zt := zt_of (lw_tb (i := 1017) (by decide +kernel)) rfl
theorem ml_L_52 : Cond.methodLink RL 52 yX7_as ∈ zt := zt_of (lw_tb (i := 1022) (by decide +kernel)) rfl
theorem ml_L_56 : Cond.methodLink RL 56 yX7_struck ∈ zt := zt_of (lw_tb (i := 1026) (by decide +kernel)) rfl
theorem ml_X7_167 : Cond.methodLink RX7 167 yX7_isHeight ∈ zt := zt_of (lw_tb (i := 1030) (by decide +kernel)) rfl
theorem ml_L_61 : Cond.methodLink RL 61 yX7_look ∈ zt := zt_of (lw_tb (i := 1033) (by decide +kernel)) rfl
theorem ml_X7_179 : Cond.methodLink RX7 179 yX7_looks ∈ zt := zt_of (lw_tb (i := 1037) (by decide +kernel)) rfl
theorem ml_X7_175 : Cond.methodLink RX7 175 yX7_behind ∈ zt := zt_of (lw_tb (i := 1042) (by decide +kernel)) rfl
theorem ml_L_65 : Cond.methodLink RL 65 yX7_think ∈ zt := zt_of (lw_tb (i := 1046) (by decide +kernel)) rfl
theorem ml_L_69 : Cond.methodLink RL 69 yX7_danger ∈ zt := zt_of (lw_tb (i := 1050) (by decide +kernel)) rfl
theorem ml_X7_183 : Cond.methodLink RX7 183 yX7_isDay ∈ zt := zt_of (lw_tb (i := 1054) (by decide +kernel)) rfl
theorem ml_L_73 : Cond.methodLink RL 73 yX7_safest ∈ zt := zt_of (lw_tb (i := 1057) (by decide +kernel)) rfl
theorem ml_L_78 : Cond.methodLink RL 78 yX7_open ∈ zt := zt_of (lw_tb (i := 1061) (by decide +kernel)) rfl
theorem ml_L_82 : Cond.methodLink RL 82 yX7_feed ∈ zt := zt_of (lw_tb (i := 1065) (by decide +kernel)) rfl
theorem ml_L_86 : Cond.methodLink RL 86 yX7_wipe ∈ zt := zt_of (lw_tb (i := 1070) (by decide +kernel)) rfl
theorem ml_L_90 : Cond.methodLink RL 90 yX7_rule ∈ zt := zt_of (lw_tb (i := 1074) (by decide +kernel)) rfl
theorem ml_X7_236 : Cond.methodLink RX7 236 yX7_whole ∈ zt := zt_of (lw_tb (i := 1078) (by decide +kernel)) rfl
theorem ml_X7_201 : Cond.methodLink RX7 201 yX7_sum ∈ zt := zt_of (lw_tb (i := 1082) (by decide +kernel)) rfl
theorem ml_X7_220 : Cond.methodLink RX7 220 yX7_part ∈ zt := zt_of (lw_tb (i := 1086) (by decide +kernel)) rfl
theorem ml_X7_195 : Cond.methodLink RX7 195 yX7_here ∈ zt := zt_of (lw_tb (i := 1090) (by decide +kernel)) rfl
theorem ml_X7_226 : Cond.methodLink RX7 226 yX7_isName ∈ zt := zt_of (lw_tb (i := 1094) (by decide +kernel)) rfl
theorem ml_X7_213 : Cond.methodLink RX7 213 yX7_lays ∈ zt := zt_of (lw_tb (i := 1097) (by decide +kernel)) rfl
theorem ml_X7_233 : Cond.methodLink RX7 233 yX7_opens ∈ zt := zt_of (lw_tb (i := 1103) (by decide +kernel)) rfl
theorem ml_X7_211 : Cond.methodLink RX7 211 yX7_takes ∈ zt := zt_of (lw_tb (i := 1107) (by decide +kernel)) rfl
theorem ml_X7_205 : Cond.methodLink RX7 205 yX7_isCompare ∈ zt := zt_of (lw_tb (i := 1111) (by decide +kernel)) rfl
theorem ml_X7_208 : Cond.methodLink RX7 208 yX7_condition ∈ zt := zt_of (lw_tb (i := 1115) (by decide +kernel)) rfl
theorem ml_X7_217 : Cond.methodLink RX7 217 yX7_compared ∈ zt := zt_of (lw_tb (i := 1119) (by decide +kernel)) rfl
theorem ml_L_94 : Cond.methodLink RL 94 yX7_drift ∈ zt := zt_of (lw_tb (i := 1123) (by decide +kernel)) rfl
theorem ml_L_98 : Cond.methodLink RL 98 yX7_says ∈ zt := zt_of (lw_tb (i := 1127) (by decide +kernel)) rfl
theorem ml_L_103 : Cond.methodLink RL 103 yX7_best ∈ zt := zt_of (lw_tb (i := 1131) (by decide +kernel)) rfl
theorem ml_X7_270 : Cond.methodLink RX7 270 yX7_isAhead ∈ zt := zt_of (lw_tb (i := 1135) (by decide +kernel)) rfl
theorem ml_X7_275 : Cond.methodLink RX7 275 yX7_bestWorth ∈ zt := zt_of (lw_tb (i := 1140) (by decide +kernel)) rfl
theorem ml_X7_265 : Cond.methodLink RX7 265 yX7_findBest ∈ zt := zt_of (lw_tb (i := 1144) (by decide +kernel)) rfl
theorem ml_X7_251 : Cond.methodLink RX7 251 yX7_dayWorth ∈ zt := zt_of (lw_tb (i := 1148) (by decide +kernel)) rfl
theorem ml_X7_255 : Cond.methodLink RX7 255 yX7_findOne ∈ zt := zt_of (lw_tb (i := 1152) (by decide +kernel)) rfl
theorem ml_X7_259 : Cond.methodLink RX7 259 yX7_place ∈ zt := zt_of (lw_tb (i := 1156) (by decide +kernel)) rfl
theorem ml_X7_262 : Cond.methodLink RX7 262 yX7_moveAt ∈ zt := zt_of (lw_tb (i := 1159) (by decide +kernel)) rfl
theorem ml_X7_278 : Cond.methodLink RX7 278 yX7_moveOf ∈ zt := zt_of (lw_tb (i := 1162) (by decide +kernel)) rfl
theorem ml_L_107 : Cond.methodLink RL 107 yX7_turn ∈ zt := zt_of (lw_tb (i := 1166) (by decide +kernel)) rfl
theorem ml_L_111 : Cond.methodLink RL 111 yX7_rest ∈ zt := zt_of (lw_tb (i := 1170) (by decide +kernel)) rfl
theorem ml_L_115 : Cond.methodLink RL 115 yX7_home ∈ zt := zt_of (lw_tb (i := 1174) (by decide +kernel)) rfl
theorem ml_L_120 : Cond.methodLink RL 120 yX7_know ∈ zt := zt_of (lw_tb (i := 1179) (by decide +kernel)) rfl
theorem ml_X7_283 : Cond.methodLink RX7 283 yX7_worthBehind ∈ zt := zt_of (lw_tb (i := 1183) (by decide +kernel)) rfl
theorem ml_L_124 : Cond.methodLink RL 124 yX7_life ∈ zt := zt_of (lw_tb (i := 1187) (by decide +kernel)) rfl
theorem ml_X7_292 : Cond.methodLink RX7 292 yX7_lasts ∈ zt := zt_of (lw_tb (i := 1191) (by decide +kernel)) rfl
theorem ml_L_128 : Cond.methodLink RL 128 yX7_lives ∈ zt := zt_of (lw_tb (i := 1196) (by decide +kernel)) rfl
theorem ml_L_132 : Cond.methodLink RL 132 yX7_rests ∈ zt := zt_of (lw_tb (i := 1200) (by decide +kernel)) rfl
theorem ml_X7_301 : Cond.methodLink RX7 301 yX7_hinders ∈ zt := zt_of (lw_tb (i := 1204) (by decide +kernel)) rfl
theorem ml_X7_295 : Cond.methodLink RX7 295 yX7_isSheet ∈ zt := zt_of (lw_tb (i := 1208) (by decide +kernel)) rfl
theorem ml_X7_298 : Cond.methodLink RX7 298 yX7_numberOf ∈ zt := zt_of (lw_tb (i := 1211) (by decide +kernel)) rfl
theorem ml_X7_305 : Cond.methodLink RX7 305 yX7_isRest ∈ zt := zt_of (lw_tb (i := 1215) (by decide +kernel)) rfl
theorem ml_L_136 : Cond.methodLink RL 136 yX7_both ∈ zt := zt_of (lw_tb (i := 1219) (by decide +kernel)) rfl
theorem ml_L_141 : Cond.methodLink RL 141 yX7_swarm ∈ zt := zt_of (lw_tb (i := 1223) (by decide +kernel)) rfl
theorem ml_X7_313 : Cond.methodLink RX7 313 yX7_findSwarm ∈ zt := zt_of (lw_tb (i := 1228) (by decide +kernel)) rfl
theorem ml_X7_308 : Cond.methodLink RX7 308 yX7_heightOf ∈ zt := zt_of (lw_tb (i := 1232) (by decide +kernel)) rfl
theorem ml_L_145 : Cond.methodLink RL 145 yX7_sheet ∈ zt := zt_of (lw_tb (i := 1236) (by decide +kernel)) rfl
theorem ml_L_152 : Cond.methodLink RL 152 yX7_write ∈ zt := zt_of (lw_tb (i := 1240) (by decide +kernel)) rfl
theorem ml_L_157 : Cond.methodLink RL 157 yX7_copy ∈ zt := zt_of (lw_tb (i := 1244) (by decide +kernel)) rfl
theorem ml_L_161 : Cond.methodLink RL 161 yX7_turns ∈ zt := zt_of (lw_tb (i := 1248) (by decide +kernel)) rfl
theorem ml_X7_316 : Cond.methodLink RX7 316 yX7_lacks ∈ zt := zt_of (lw_tb (i := 1252) (by decide +kernel)) rfl
theorem ml_L_165 : Cond.methodLink RL 165 yX7_read ∈ zt := zt_of (lw_tb (i := 1256) (by decide +kernel)) rfl
theorem ml_L_169 : Cond.methodLink RL 169 yX7_image ∈ zt := zt_of (lw_tb (i := 1260) (by decide +kernel)) rfl
theorem ml_L_173 : Cond.methodLink RL 173 yX7_undo ∈ zt := zt_of (lw_tb (i := 1264) (by decide +kernel)) rfl
theorem ml_L_177 : Cond.methodLink RL 177 yX7_tear ∈ zt := zt_of (lw_tb (i := 1268) (by decide +kernel)) rfl
theorem ml_L_181 : Cond.methodLink RL 181 yX7_count ∈ zt := zt_of (lw_tb (i := 1272) (by decide +kernel)) rfl
theorem ml_L_185 : Cond.methodLink RL 185 yX7_status ∈ zt := zt_of (lw_tb (i := 1276) (by decide +kernel)) rfl
theorem kc_X5_25 : Cond.constant RX5 25 (1000000) ∈ zt := zt_of (lw_tb (i := 25) (by decide +kernel)) rfl
theorem kc_X6_79 : Cond.constant RX6 79 (-1000000001) ∈ zt := zt_of (lw_tb (i := 310) (by decide +kernel)) rfl
theorem kc_X6_94 : Cond.constant RX6 94 (-1000000005) ∈ zt := zt_of (lw_tb (i := 329) (by decide +kernel)) rfl
theorem kc_X4_38 : Cond.constant RX4 38 (1000000) ∈ zt := zt_of (lw_tb (i := 361) (by decide +kernel)) rfl
theorem kc_X6_124 : Cond.constant RX6 124 (1000000) ∈ zt := zt_of (lw_tb (i := 453) (by decide +kernel)) rfl
theorem kc_X6_128 : Cond.constant RX6 128 (-1000000002) ∈ zt := zt_of (lw_tb (i := 454) (by decide +kernel)) rfl
theorem kc_X6_165 : Cond.constant RX6 165 (-1000000003) ∈ zt := zt_of (lw_tb (i := 478) (by decide +kernel)) rfl
theorem kc_X6_227 : Cond.constant RX6 227 (-1000000004) ∈ zt := zt_of (lw_tb (i := 613) (by decide +kernel)) rfl
theorem kc_X6_320 : Cond.constant RX6 320 (1103515245) ∈ zt := zt_of (lw_tb (i := 651) (by decide +kernel)) rfl
theorem kc_X6_295 : Cond.constant RX6 295 (-1000000006) ∈ zt := zt_of (lw_tb (i := 675) (by decide +kernel)) rfl
theorem kc_X6_281 : Cond.constant RX6 281 (-1000000007) ∈ zt := zt_of (lw_tb (i := 676) (by decide +kernel)) rfl
theorem kc_X3_73 : Cond.constant RX3 73 (1000000) ∈ zt := zt_of (lw_tb (i := 714) (by decide +kernel)) rfl
theorem kc_X7_70 : Cond.constant RX7 70 (-1000000001) ∈ zt := zt_of (lw_tb (i := 900) (by decide +kernel)) rfl
theorem kc_X7_160 : Cond.constant RX7 160 (1000000) ∈ zt := zt_of (lw_tb (i := 981) (by decide +kernel)) rfl
theorem kc_X7_291 : Cond.constant RX7 291 (1103515245) ∈ zt := zt_of (lw_tb (i := 1195) (by decide +kernel)) rfl
theorem kl_X4_39 : Cond.constantLong RX4 39 (1000000) ∈ zt := zt_of (lw_tb (i := 495) (by decide +kernel)) rfl
theorem kl_X5_89 : Cond.constantLong RX5 89 (1000000) ∈ zt := zt_of (lw_tb (i := 563) (by decide +kernel)) rfl
theorem kl_X0_76 : Cond.constantLong RX0 76 (64) ∈ zt := zt_of (lw_tb (i := 567) (by decide +kernel)) rfl
theorem kl_X4_45 : Cond.constantLong RX4 45 (100) ∈ zt := zt_of (lw_tb (i := 637) (by decide +kernel)) rfl
theorem kl_X6_238 : Cond.constantLong RX6 238 (1000000) ∈ zt := zt_of (lw_tb (i := 638) (by decide +kernel)) rfl
theorem kl_X6_321 : Cond.constantLong RX6 321 (-2000000) ∈ zt := zt_of (lw_tb (i := 691) (by decide +kernel)) rfl
theorem kl_X6_303 : Cond.constantLong RX6 303 (-24) ∈ zt := zt_of (lw_tb (i := 769) (by decide +kernel)) rfl
theorem kl_X6_305 : Cond.constantLong RX6 305 (24) ∈ zt := zt_of (lw_tb (i := 770) (by decide +kernel)) rfl
theorem kl_X7_62 : Cond.constantLong RX7 62 (100) ∈ zt := zt_of (lw_tb (i := 807) (by decide +kernel)) rfl
theorem kl_X7_64 : Cond.constantLong RX7 64 (10) ∈ zt := zt_of (lw_tb (i := 808) (by decide +kernel)) rfl
theorem kl_X7_66 : Cond.constantLong RX7 66 (1000000) ∈ zt := zt_of (lw_tb (i := 809) (by decide +kernel)) rfl
theorem kl_X7_68 : Cond.constantLong RX7 68 (9) ∈ zt := zt_of (lw_tb (i := 810) (by decide +kernel)) rfl
theorem kl_X7_83 : Cond.constantLong RX7 83 (5) ∈ zt := zt_of (lw_tb (i := 885) (by decide +kernel)) rfl
theorem kl_X7_75 : Cond.constantLong RX7 75 (9999) ∈ zt := zt_of (lw_tb (i := 892) (by decide +kernel)) rfl
theorem kl_X7_77 : Cond.constantLong RX7 77 (999) ∈ zt := zt_of (lw_tb (i := 893) (by decide +kernel)) rfl
theorem kl_X7_79 : Cond.constantLong RX7 79 (99999999) ∈ zt := zt_of (lw_tb (i := 894) (by decide +kernel)) rfl
theorem kl_X7_81 : Cond.constantLong RX7 81 (60) ∈ zt := zt_of (lw_tb (i := 895) (by decide +kernel)) rfl
theorem kl_X7_103 : Cond.constantLong RX7 103 (-24) ∈ zt := zt_of (lw_tb (i := 912) (by decide +kernel)) rfl
theorem kl_X7_105 : Cond.constantLong RX7 105 (24) ∈ zt := zt_of (lw_tb (i := 913) (by decide +kernel)) rfl
theorem kl_X7_96 : Cond.constantLong RX7 96 (-12) ∈ zt := zt_of (lw_tb (i := 926) (by decide +kernel)) rfl
theorem kl_X7_98 : Cond.constantLong RX7 98 (12) ∈ zt := zt_of (lw_tb (i := 927) (by decide +kernel)) rfl
theorem kl_X7_154 : Cond.constantLong RX7 154 (6) ∈ zt := zt_of (lw_tb (i := 1021) (by decide +kernel)) rfl
theorem kl_X7_173 : Cond.constantLong RX7 173 (50) ∈ zt := zt_of (lw_tb (i := 1041) (by decide +kernel)) rfl
theorem kl_X7_186 : Cond.constantLong RX7 186 (4) ∈ zt := zt_of (lw_tb (i := 1069) (by decide +kernel)) rfl
theorem kl_X7_229 : Cond.constantLong RX7 229 (48) ∈ zt := zt_of (lw_tb (i := 1101) (by decide +kernel)) rfl
theorem kl_X7_231 : Cond.constantLong RX7 231 (57) ∈ zt := zt_of (lw_tb (i := 1102) (by decide +kernel)) rfl
theorem kl_X7_268 : Cond.constantLong RX7 268 (8) ∈ zt := zt_of (lw_tb (i := 1138) (by decide +kernel)) rfl
theorem kl_X7_273 : Cond.constantLong RX7 273 (3) ∈ zt := zt_of (lw_tb (i := 1139) (by decide +kernel)) rfl
theorem kl_X7_281 : Cond.constantLong RX7 281 (20) ∈ zt := zt_of (lw_tb (i := 1178) (by decide +kernel)) rfl
theorem kl_X7_311 : Cond.constantLong RX7 311 (13) ∈ zt := zt_of (lw_tb (i := 1227) (by decide +kernel)) rfl
theorem kl_X7_322 : Cond.constantLong RX7 322 (-1) ∈ zt := zt_of (lw_tb (i := 1280) (by decide +kernel)) rfl
theorem kl_L_146 : Cond.constantLong RL 146 (4294967295) ∈ zt := zt_of (lw_tb (i := 1281) (by decide +kernel)) rfl
set_option maxRecDepth 100000 in
theorem yv_X0_make : zYv yX0_make cX0_make 4 (some .long) 2 0 := ⟨(RX0, TX0, 8), rfl, rfl, by decide, by decide, zt_of (lw_tb (i := 549) rfl) rfl, zt_of (lw_tb (i := 547) (by decide +kernel)) rfl, zt_of (lw_tb (i := 548) (by decide +kernel)) rfl, zt_of (lw_tb (i := 5) (by decide +kernel)) rfl, by decide, by decide, by decide +kernel⟩
set_option maxRecDepth 100000 in
theorem yv_X0_stay : zYv yX0_stay cX0_stay 7 none 2 0 := ⟨(RX0, TX0, 8), rfl, rfl, by decide, by decide, zt_of (lw_tb (i := 558) rfl) rfl, zt_of (lw_tb (i := 557) (by decide +kernel)) rfl, zt_of (lw_sb (i := 13) (by decide +kernel)) rfl, zt_of (lw_tb (i := 5) (by decide +kernel)) rfl, by decide, by decide, by decide +kernel⟩
set_option maxRecDepth 100000 in
theorem yv_X0_spread : zYv yX0_spread cX0_spread 3 none 1 0 := ⟨(RX0, TX0, 8), rfl, rfl, by decide, by decide, zt_of (lw_tb (i := 575) rfl) rfl, zt_of (lw_tb (i := 574) (by decide +kernel)) rfl, zt_of (lw_sb (i := 15) (by decide +kernel)) rfl, zt_of (lw_tb (i := 5) (by decide +kernel)) rfl, by decide, by decide, by decide +kernel⟩
set_option maxRecDepth 100000 in
theorem yv_X0_step : zYv yX0_step cX0_step 6 none 3 0 := ⟨(RX0, TX0, 8), rfl, rfl, by decide, by decide, zt_of (lw_tb (i := 579) rfl) rfl, zt_of (lw_tb (i := 578) (by decide +kernel)) rfl, zt_of (lw_sb (i := 16) (by decide +kernel)) rfl, zt_of (lw_tb (i := 5) (by decide +kernel)) rfl, by decide, by decide, by decide +kernel⟩
set_option maxRecDepth 100000 in
theorem ys_X0_cell : zYs yX0_cell cX0_cell 3 (some .int) 3 := ⟨by decide, zt_of (lw_tb (i := 566) rfl) rfl, zt_of (lw_tb (i := 565) (by decide +kernel)) rfl, zt_of (lw_tb (i := 5) (by decide +kernel)) rfl, by decide, by decide, by decide +kernel⟩
set_option maxRecDepth 100000 in
theorem yv_X0_valueFrom : zYv yX0_valueFrom cX0_valueFrom 4 (some .long) 3 0 := ⟨(RX0, TX0, 8), rfl, rfl, by decide, by decide, zt_of (lw_tb (i := 571) rfl) rfl, zt_of (lw_tb (i := 570) (by decide +kernel)) rfl, zt_of (lw_sb (i := 14) (by decide +kernel)) rfl, zt_of (lw_tb (i := 5) (by decide +kernel)) rfl, by decide, by decide, by decide +kernel⟩
set_option maxRecDepth 100000 in
theorem yv_X0_follow : zYv yX0_follow cX0_follow 6 none 1 0 := ⟨(RX0, TX0, 8), rfl, rfl, by decide, by decide, zt_of (lw_tb (i := 586) rfl) rfl, zt_of (lw_tb (i := 585) (by decide +kernel)) rfl, zt_of (lw_sb (i := 17) (by decide +kernel)) rfl, zt_of (lw_tb (i := 5) (by decide +kernel)) rfl, by decide, by decide, by decide +kernel⟩
set_option maxRecDepth 100000 in
theorem yv_X0_firstMove : zYv yX0_firstMove cX0_firstMove 5 (some .int) 3 0 := ⟨(RX0, TX0, 8), rfl, rfl, by decide, by decide, zt_of (lw_tb (i := 590) rfl) rfl, zt_of (lw_tb (i := 589) (by decide +kernel)) rfl, zt_of (lw_sb (i := 18) (by decide +kernel)) rfl, zt_of (lw_tb (i := 5) (by decide +kernel)) rfl, by decide, by decide, by decide +kernel⟩
set_option maxRecDepth 100000 in
theorem yv_X0_keepsValue : zYv yX0_keepsValue cX0_keepsValue 9 (some .boolean) 4 0 := ⟨(RX0, TX0, 8), rfl, rfl, by decide, by decide, zt_of (lw_tb (i := 594) rfl) rfl, zt_of (lw_tb (i := 593) (by decide +kernel)) rfl, zt_of (lw_sb (i := 19) (by decide +kernel)) rfl, zt_of (lw_tb (i := 5) (by decide +kernel)) rfl, by decide, by decide, by decide +kernel⟩
set_option maxRecDepth 100000 in
theorem yv_X1_told : zYv yX1_told cX1_told 2 (some .int) 1 1 := ⟨(RX1, TX1, 16), rfl, rfl, by decide, by decide, zt_of (lw_tb (i := 376) rfl) rfl, zt_of (lw_tb (i := 374) (by decide +kernel)) rfl, zt_of (lw_tb (i := 375) (by decide +kernel)) rfl, zt_of (lw_tb (i := 4) (by decide +kernel)) rfl, by decide, by decide, by decide +kernel⟩
set_option maxRecDepth 100000 in
theorem yv_X1_faultOf : zYv yX1_faultOf cX1_faultOf 3 (some .int) 2 1 := ⟨(RX1, TX1, 16), rfl, rfl, by decide, by decide, zt_of (lw_tb (i := 528) rfl) rfl, zt_of (lw_tb (i := 526) (by decide +kernel)) rfl, zt_of (lw_tb (i := 527) (by decide +kernel)) rfl, zt_of (lw_tb (i := 4) (by decide +kernel)) rfl, by decide, by decide, by decide +kernel⟩
set_option maxRecDepth 100000 in
theorem yv_X1_learn : zYv yX1_learn cX1_learn 3 none 1 1 := ⟨(RX1, TX1, 16), rfl, rfl, by decide, by decide, zt_of (lw_tb (i := 384) rfl) rfl, zt_of (lw_tb (i := 383) (by decide +kernel)) rfl, zt_of (lw_sb (i := 1) (by decide +kernel)) rfl, zt_of (lw_tb (i := 4) (by decide +kernel)) rfl, by decide, by decide, by decide +kernel⟩
set_option maxRecDepth 100000 in
theorem ys_X1_nameOf : zYs yX1_nameOf cX1_nameOf 1 (some .int) 1 := ⟨by decide, zt_of (lw_tb (i := 424) rfl) rfl, zt_of (lw_tb (i := 423) (by decide +kernel)) rfl, zt_of (lw_tb (i := 4) (by decide +kernel)) rfl, by decide, by decide, by decide +kernel⟩
set_option maxRecDepth 100000 in
theorem yv_X1_readText : zYv yX1_readText cX1_readText 7 none 2 1 := ⟨(RX1, TX1, 16), rfl, rfl, by decide, by decide, zt_of (lw_tb (i := 401) rfl) rfl, zt_of (lw_tb (i := 400) (by decide +kernel)) rfl, zt_of (lw_sb (i := 2) (by decide +kernel)) rfl, zt_of (lw_tb (i := 4) (by decide +kernel)) rfl, by decide, by decide, by decide +kernel⟩
set_option maxRecDepth 100000 in
theorem yv_X1_beginSum : zYv yX1_beginSum cX1_beginSum 2 none 1 1 := ⟨(RX1, TX1, 16), rfl, rfl, by decide, by decide, zt_of (lw_tb (i := 405) rfl) rfl, zt_of (lw_tb (i := 404) (by decide +kernel)) rfl, zt_of (lw_sb (i := 3) (by decide +kernel)) rfl, zt_of (lw_tb (i := 4) (by decide +kernel)) rfl, by decide, by decide, by decide +kernel⟩
set_option maxRecDepth 100000 in
theorem yv_X1_takesDigit : zYv yX1_takesDigit cX1_takesDigit 2 (some .boolean) 1 1 := ⟨(RX1, TX1, 16), rfl, rfl, by decide, by decide, zt_of (lw_tb (i := 417) rfl) rfl, zt_of (lw_tb (i := 416) (by decide +kernel)) rfl, zt_of (lw_sb (i := 6) (by decide +kernel)) rfl, zt_of (lw_tb (i := 4) (by decide +kernel)) rfl, by decide, by decide, by decide +kernel⟩
set_option maxRecDepth 100000 in
theorem yv_X1_endNumber : zYv yX1_endNumber cX1_endNumber 1 none 0 1 := ⟨(RX1, TX1, 16), rfl, rfl, by decide, by decide, zt_of (lw_tb (i := 409) rfl) rfl, zt_of (lw_tb (i := 408) (by decide +kernel)) rfl, zt_of (lw_sb (i := 4) (by decide +kernel)) rfl, zt_of (lw_tb (i := 4) (by decide +kernel)) rfl, by decide, by decide, by decide +kernel⟩
set_option maxRecDepth 100000 in
theorem yv_X1_takesInPart : zYv yX1_takesInPart cX1_takesInPart 3 (some .boolean) 1 1 := ⟨(RX1, TX1, 16), rfl, rfl, by decide, by decide, zt_of (lw_tb (i := 421) rfl) rfl, zt_of (lw_tb (i := 420) (by decide +kernel)) rfl, zt_of (lw_sb (i := 7) (by decide +kernel)) rfl, zt_of (lw_tb (i := 4) (by decide +kernel)) rfl, by decide, by decide, by decide +kernel⟩
set_option maxRecDepth 100000 in
theorem yv_X1_endPart : zYv yX1_endPart cX1_endPart 3 none 1 1 := ⟨(RX1, TX1, 16), rfl, rfl, by decide, by decide, zt_of (lw_tb (i := 413) rfl) rfl, zt_of (lw_tb (i := 412) (by decide +kernel)) rfl, zt_of (lw_sb (i := 5) (by decide +kernel)) rfl, zt_of (lw_tb (i := 4) (by decide +kernel)) rfl, by decide, by decide, by decide +kernel⟩
set_option maxRecDepth 100000 in
theorem yv_X1_takesBehindPart : zYv yX1_takesBehindPart cX1_takesBehindPart 3 (some .boolean) 1 1 := ⟨(RX1, TX1, 16), rfl, rfl, by decide, by decide, zt_of (lw_tb (i := 428) rfl) rfl, zt_of (lw_tb (i := 427) (by decide +kernel)) rfl, zt_of (lw_sb (i := 8) (by decide +kernel)) rfl, zt_of (lw_tb (i := 4) (by decide +kernel)) rfl, by decide, by decide, by decide +kernel⟩
set_option maxRecDepth 100000 in
theorem yv_X1_takesBehindSum : zYv yX1_takesBehindSum cX1_takesBehindSum 3 (some .boolean) 1 1 := ⟨(RX1, TX1, 16), rfl, rfl, by decide, by decide, zt_of (lw_tb (i := 432) rfl) rfl, zt_of (lw_tb (i := 431) (by decide +kernel)) rfl, zt_of (lw_sb (i := 9) (by decide +kernel)) rfl, zt_of (lw_tb (i := 4) (by decide +kernel)) rfl, by decide, by decide, by decide +kernel⟩
set_option maxRecDepth 100000 in
theorem yv_X1_placeBehind : zYv yX1_placeBehind cX1_placeBehind 2 (some .int) 1 1 := ⟨(RX1, TX1, 16), rfl, rfl, by decide, by decide, zt_of (lw_tb (i := 436) rfl) rfl, zt_of (lw_tb (i := 435) (by decide +kernel)) rfl, zt_of (lw_sb (i := 10) (by decide +kernel)) rfl, zt_of (lw_tb (i := 4) (by decide +kernel)) rfl, by decide, by decide, by decide +kernel⟩
set_option maxRecDepth 100000 in
theorem yv_X1_comparesRight : zYv yX1_comparesRight cX1_comparesRight 1 (some .boolean) 0 1 := ⟨(RX1, TX1, 16), rfl, rfl, by decide, by decide, zt_of (lw_tb (i := 440) rfl) rfl, zt_of (lw_tb (i := 439) (by decide +kernel)) rfl, zt_of (lw_sb (i := 11) (by decide +kernel)) rfl, zt_of (lw_tb (i := 4) (by decide +kernel)) rfl, by decide, by decide, by decide +kernel⟩
set_option maxRecDepth 100000 in
theorem yv_X2_isMissing : zYv yX2_isMissing cX2_isMissing 1 (some .boolean) 0 2 := ⟨(RX2, TX2, 3), rfl, rfl, by decide, by decide, zt_of (lw_tb (i := 674) rfl) rfl, zt_of (lw_tb (i := 672) (by decide +kernel)) rfl, zt_of (lw_tb (i := 673) (by decide +kernel)) rfl, zt_of (lw_tb (i := 7) (by decide +kernel)) rfl, by decide, by decide, by decide +kernel⟩
set_option maxRecDepth 100000 in
theorem yv_X2_begin : zYv yX2_begin cX2_begin 4 none 2 2 := ⟨(RX2, TX2, 3), rfl, rfl, by decide, by decide, zt_of (lw_tb (i := 747) rfl) rfl, zt_of (lw_tb (i := 745) (by decide +kernel)) rfl, zt_of (lw_tb (i := 746) (by decide +kernel)) rfl, zt_of (lw_tb (i := 7) (by decide +kernel)) rfl, by decide, by decide, by decide +kernel⟩
set_option maxRecDepth 100000 in
theorem yv_X2_put : zYv yX2_put cX2_put 4 none 2 2 := ⟨(RX2, TX2, 3), rfl, rfl, by decide, by decide, zt_of (lw_tb (i := 756) rfl) rfl, zt_of (lw_tb (i := 754) (by decide +kernel)) rfl, zt_of (lw_tb (i := 755) (by decide +kernel)) rfl, zt_of (lw_tb (i := 7) (by decide +kernel)) rfl, by decide, by decide, by decide +kernel⟩
set_option maxRecDepth 100000 in
theorem yv_X2_hasFrom : zYv yX2_hasFrom cX2_hasFrom 3 (some .boolean) 2 2 := ⟨(RX2, TX2, 3), rfl, rfl, by decide, by decide, zt_of (lw_tb (i := 764) rfl) rfl, zt_of (lw_tb (i := 762) (by decide +kernel)) rfl, zt_of (lw_tb (i := 763) (by decide +kernel)) rfl, zt_of (lw_tb (i := 7) (by decide +kernel)) rfl, by decide, by decide, by decide +kernel⟩
set_option maxRecDepth 100000 in
theorem yv_X2_isWithin : zYv yX2_isWithin cX2_isWithin 3 (some .boolean) 1 2 := ⟨(RX2, TX2, 3), rfl, rfl, by decide, by decide, zt_of (lw_tb (i := 680) rfl) rfl, zt_of (lw_tb (i := 678) (by decide +kernel)) rfl, zt_of (lw_tb (i := 679) (by decide +kernel)) rfl, zt_of (lw_tb (i := 7) (by decide +kernel)) rfl, by decide, by decide, by decide +kernel⟩
set_option maxRecDepth 100000 in
theorem yv_X3_load : zYv yX3_load cX3_load 5 none 3 3 := ⟨(RX3, TX3, 11), rfl, rfl, by decide, by decide, zt_of (lw_tb (i := 703) rfl) rfl, zt_of (lw_tb (i := 701) (by decide +kernel)) rfl, zt_of (lw_tb (i := 702) (by decide +kernel)) rfl, zt_of (lw_tb (i := 6) (by decide +kernel)) rfl, by decide, by decide, by decide +kernel⟩
set_option maxRecDepth 100000 in
theorem yv_X3_canBe : zYv yX3_canBe cX3_canBe 1 (some .boolean) 0 3 := ⟨(RX3, TX3, 11), rfl, rfl, by decide, by decide, zt_of (lw_tb (i := 726) rfl) rfl, zt_of (lw_tb (i := 724) (by decide +kernel)) rfl, zt_of (lw_tb (i := 725) (by decide +kernel)) rfl, zt_of (lw_tb (i := 6) (by decide +kernel)) rfl, by decide, by decide, by decide +kernel⟩
set_option maxRecDepth 100000 in
theorem yv_X3_weigh : zYv yX3_weigh cX3_weigh 5 none 1 3 := ⟨(RX3, TX3, 11), rfl, rfl, by decide, by decide, zt_of (lw_tb (i := 708) rfl) rfl, zt_of (lw_tb (i := 707) (by decide +kernel)) rfl, zt_of (lw_sb (i := 25) (by decide +kernel)) rfl, zt_of (lw_tb (i := 6) (by decide +kernel)) rfl, by decide, by decide, by decide +kernel⟩
set_option maxRecDepth 100000 in
theorem ys_X3_costOf : zYs yX3_costOf cX3_costOf 1 (some .int) 1 := ⟨by decide, zt_of (lw_tb (i := 717) rfl) rfl, zt_of (lw_tb (i := 716) (by decide +kernel)) rfl, zt_of (lw_tb (i := 6) (by decide +kernel)) rfl, by decide, by decide, by decide +kernel⟩
set_option maxRecDepth 100000 in
theorem yv_X3_costBehind : zYv yX3_costBehind cX3_costBehind 8 (some .int) 2 3 := ⟨(RX3, TX3, 11), rfl, rfl, by decide, by decide, zt_of (lw_tb (i := 712) rfl) rfl, zt_of (lw_tb (i := 711) (by decide +kernel)) rfl, zt_of (lw_sb (i := 26) (by decide +kernel)) rfl, zt_of (lw_tb (i := 6) (by decide +kernel)) rfl, by decide, by decide, by decide +kernel⟩
set_option maxRecDepth 100000 in
theorem yv_X3_gather : zYv yX3_gather cX3_gather 4 none 1 3 := ⟨(RX3, TX3, 11), rfl, rfl, by decide, by decide, zt_of (lw_tb (i := 722) rfl) rfl, zt_of (lw_tb (i := 721) (by decide +kernel)) rfl, zt_of (lw_sb (i := 27) (by decide +kernel)) rfl, zt_of (lw_tb (i := 6) (by decide +kernel)) rfl, by decide, by decide, by decide +kernel⟩
set_option maxRecDepth 100000 in
theorem yv_X3_follow : zYv yX3_follow cX3_follow 4 none 0 3 := ⟨(RX3, TX3, 11), rfl, rfl, by decide, by decide, zt_of (lw_tb (i := 730) rfl) rfl, zt_of (lw_tb (i := 729) (by decide +kernel)) rfl, zt_of (lw_sb (i := 28) (by decide +kernel)) rfl, zt_of (lw_tb (i := 6) (by decide +kernel)) rfl, by decide, by decide, by decide +kernel⟩
set_option maxRecDepth 100000 in
theorem yv_X3_firstMove : zYv yX3_firstMove cX3_firstMove 4 (some .int) 2 3 := ⟨(RX3, TX3, 11), rfl, rfl, by decide, by decide, zt_of (lw_tb (i := 734) rfl) rfl, zt_of (lw_tb (i := 733) (by decide +kernel)) rfl, zt_of (lw_sb (i := 29) (by decide +kernel)) rfl, zt_of (lw_tb (i := 6) (by decide +kernel)) rfl, by decide, by decide, by decide +kernel⟩
set_option maxRecDepth 100000 in
theorem yv_X3_fits : zYv yX3_fits cX3_fits 4 (some .boolean) 3 3 := ⟨(RX3, TX3, 11), rfl, rfl, by decide, by decide, zt_of (lw_tb (i := 738) rfl) rfl, zt_of (lw_tb (i := 737) (by decide +kernel)) rfl, zt_of (lw_sb (i := 30) (by decide +kernel)) rfl, zt_of (lw_tb (i := 6) (by decide +kernel)) rfl, by decide, by decide, by decide +kernel⟩
set_option maxRecDepth 100000 in
theorem yv_X4_begin : zYv yX4_begin cX4_begin 6 none 5 4 := ⟨(RX4, TX4, 6), rfl, rfl, by decide, by decide, zt_of (lw_tb (i := 458) rfl) rfl, zt_of (lw_tb (i := 456) (by decide +kernel)) rfl, zt_of (lw_tb (i := 457) (by decide +kernel)) rfl, zt_of (lw_tb (i := 3) (by decide +kernel)) rfl, by decide, by decide, by decide +kernel⟩
set_option maxRecDepth 100000 in
theorem yv_X4_become : zYv yX4_become cX4_become 2 none 1 4 := ⟨(RX4, TX4, 6), rfl, rfl, by decide, by decide, zt_of (lw_tb (i := 626) rfl) rfl, zt_of (lw_tb (i := 624) (by decide +kernel)) rfl, zt_of (lw_tb (i := 625) (by decide +kernel)) rfl, zt_of (lw_tb (i := 3) (by decide +kernel)) rfl, by decide, by decide, by decide +kernel⟩
set_option maxRecDepth 100000 in
theorem yv_X4_isOneOf : zYv yX4_isOneOf cX4_isOneOf 2 (some .boolean) 1 4 := ⟨(RX4, TX4, 6), rfl, rfl, by decide, by decide, zt_of (lw_tb (i := 475) rfl) rfl, zt_of (lw_tb (i := 473) (by decide +kernel)) rfl, zt_of (lw_tb (i := 474) (by decide +kernel)) rfl, zt_of (lw_tb (i := 3) (by decide +kernel)) rfl, by decide, by decide, by decide +kernel⟩
set_option maxRecDepth 100000 in
theorem yv_X4_strikeAt : zYv yX4_strikeAt cX4_strikeAt 9 (some .int) 1 4 := ⟨(RX4, TX4, 6), rfl, rfl, by decide, by decide, zt_of (lw_tb (i := 360) rfl) rfl, zt_of (lw_tb (i := 358) (by decide +kernel)) rfl, zt_of (lw_tb (i := 359) (by decide +kernel)) rfl, zt_of (lw_tb (i := 3) (by decide +kernel)) rfl, by decide, by decide, by decide +kernel⟩
set_option maxRecDepth 100000 in
theorem yv_X4_chanceBehind : zYv yX4_chanceBehind cX4_chanceBehind 10 (some .int) 2 4 := ⟨(RX4, TX4, 6), rfl, rfl, by decide, by decide, zt_of (lw_tb (i := 494) rfl) rfl, zt_of (lw_tb (i := 492) (by decide +kernel)) rfl, zt_of (lw_tb (i := 493) (by decide +kernel)) rfl, zt_of (lw_tb (i := 3) (by decide +kernel)) rfl, by decide, by decide, by decide +kernel⟩
set_option maxRecDepth 100000 in
theorem yv_X4_chanceIfItCanBe : zYv yX4_chanceIfItCanBe cX4_chanceIfItCanBe 4 (some .int) 2 4 := ⟨(RX4, TX4, 6), rfl, rfl, by decide, by decide, zt_of (lw_tb (i := 631) rfl) rfl, zt_of (lw_tb (i := 629) (by decide +kernel)) rfl, zt_of (lw_tb (i := 630) (by decide +kernel)) rfl, zt_of (lw_tb (i := 3) (by decide +kernel)) rfl, by decide, by decide, by decide +kernel⟩
set_option maxRecDepth 100000 in
theorem yv_X4_chanceToTell : zYv yX4_chanceToTell cX4_chanceToTell 6 (some .int) 1 4 := ⟨(RX4, TX4, 6), rfl, rfl, by decide, by decide, zt_of (lw_tb (i := 636) rfl) rfl, zt_of (lw_tb (i := 634) (by decide +kernel)) rfl, zt_of (lw_tb (i := 635) (by decide +kernel)) rfl, zt_of (lw_tb (i := 3) (by decide +kernel)) rfl, by decide, by decide, by decide +kernel⟩
set_option maxRecDepth 100000 in
theorem yv_X5_become : zYv yX5_become cX5_become 3 none 1 5 := ⟨(RX5, TX5, 9), rfl, rfl, by decide, by decide, zt_of (lw_tb (i := 621) rfl) rfl, zt_of (lw_tb (i := 619) (by decide +kernel)) rfl, zt_of (lw_tb (i := 620) (by decide +kernel)) rfl, zt_of (lw_tb (i := 2) (by decide +kernel)) rfl, by decide, by decide, by decide +kernel⟩
set_option maxRecDepth 100000 in
theorem yv_X5_hasRule : zYv yX5_hasRule cX5_hasRule 1 (some .boolean) 0 5 := ⟨(RX5, TX5, 9), rfl, rfl, by decide, by decide, zt_of (lw_tb (i := 380) rfl) rfl, zt_of (lw_tb (i := 378) (by decide +kernel)) rfl, zt_of (lw_tb (i := 379) (by decide +kernel)) rfl, zt_of (lw_tb (i := 2) (by decide +kernel)) rfl, by decide, by decide, by decide +kernel⟩
set_option maxRecDepth 100000 in
theorem yv_X5_isOpen : zYv yX5_isOpen cX5_isOpen 2 (some .boolean) 1 5 := ⟨(RX5, TX5, 9), rfl, rfl, by decide, by decide, zt_of (lw_tb (i := 397) rfl) rfl, zt_of (lw_tb (i := 395) (by decide +kernel)) rfl, zt_of (lw_tb (i := 396) (by decide +kernel)) rfl, zt_of (lw_tb (i := 2) (by decide +kernel)) rfl, by decide, by decide, by decide +kernel⟩
set_option maxRecDepth 100000 in
theorem yv_X5_openOnes : zYv yX5_openOnes cX5_openOnes 3 (some .int) 0 5 := ⟨(RX5, TX5, 9), rfl, rfl, by decide, by decide, zt_of (lw_tb (i := 393) rfl) rfl, zt_of (lw_tb (i := 391) (by decide +kernel)) rfl, zt_of (lw_tb (i := 392) (by decide +kernel)) rfl, zt_of (lw_tb (i := 2) (by decide +kernel)) rfl, by decide, by decide, by decide +kernel⟩
set_option maxRecDepth 100000 in
theorem yv_X5_allLooks : zYv yX5_allLooks cX5_allLooks 3 (some .int) 0 5 := ⟨(RX5, TX5, 9), rfl, rfl, by decide, by decide, zt_of (lw_tb (i := 795) rfl) rfl, zt_of (lw_tb (i := 793) (by decide +kernel)) rfl, zt_of (lw_tb (i := 794) (by decide +kernel)) rfl, zt_of (lw_tb (i := 2) (by decide +kernel)) rfl, by decide, by decide, by decide +kernel⟩
set_option maxRecDepth 100000 in
theorem yv_X5_nextWarned : zYv yX5_nextWarned cX5_nextWarned 4 (some .int) 0 5 := ⟨(RX5, TX5, 9), rfl, rfl, by decide, by decide, zt_of (lw_tb (i := 388) rfl) rfl, zt_of (lw_tb (i := 386) (by decide +kernel)) rfl, zt_of (lw_tb (i := 387) (by decide +kernel)) rfl, zt_of (lw_tb (i := 2) (by decide +kernel)) rfl, by decide, by decide, by decide +kernel⟩
set_option maxRecDepth 100000 in
theorem yv_X5_dangerOn : zYv yX5_dangerOn cX5_dangerOn 5 (some .int) 2 5 := ⟨(RX5, TX5, 9), rfl, rfl, by decide, by decide, zt_of (lw_tb (i := 356) rfl) rfl, zt_of (lw_tb (i := 354) (by decide +kernel)) rfl, zt_of (lw_tb (i := 355) (by decide +kernel)) rfl, zt_of (lw_tb (i := 2) (by decide +kernel)) rfl, by decide, by decide, by decide +kernel⟩
set_option maxRecDepth 100000 in
theorem yv_X5_useAt : zYv yX5_useAt cX5_useAt 2 (some .int) 1 5 := ⟨(RX5, TX5, 9), rfl, rfl, by decide, by decide, zt_of (lw_tb (i := 349) rfl) rfl, zt_of (lw_tb (i := 347) (by decide +kernel)) rfl, zt_of (lw_tb (i := 348) (by decide +kernel)) rfl, zt_of (lw_tb (i := 2) (by decide +kernel)) rfl, by decide, by decide, by decide +kernel⟩
set_option maxRecDepth 100000 in
theorem yv_X5_worthOf : zYv yX5_worthOf cX5_worthOf 3 (some .long) 2 5 := ⟨(RX5, TX5, 9), rfl, rfl, by decide, by decide, zt_of (lw_tb (i := 562) rfl) rfl, zt_of (lw_tb (i := 560) (by decide +kernel)) rfl, zt_of (lw_tb (i := 561) (by decide +kernel)) rfl, zt_of (lw_tb (i := 2) (by decide +kernel)) rfl, by decide, by decide, by decide +kernel⟩
set_option maxRecDepth 100000 in
theorem yv_X5_canShift : zYv yX5_canShift cX5_canShift 3 (some .boolean) 1 5 := ⟨(RX5, TX5, 9), rfl, rfl, by decide, by decide, zt_of (lw_tb (i := 325) rfl) rfl, zt_of (lw_tb (i := 323) (by decide +kernel)) rfl, zt_of (lw_tb (i := 324) (by decide +kernel)) rfl, zt_of (lw_tb (i := 2) (by decide +kernel)) rfl, by decide, by decide, by decide +kernel⟩
set_option maxRecDepth 100000 in
theorem yv_X5_shift : zYv yX5_shift cX5_shift 2 none 1 5 := ⟨(RX5, TX5, 9), rfl, rfl, by decide, by decide, zt_of (lw_tb (i := 333) rfl) rfl, zt_of (lw_tb (i := 331) (by decide +kernel)) rfl, zt_of (lw_tb (i := 332) (by decide +kernel)) rfl, zt_of (lw_tb (i := 2) (by decide +kernel)) rfl, by decide, by decide, by decide +kernel⟩
set_option maxRecDepth 100000 in
theorem yv_X5_stepsLeft : zYv yX5_stepsLeft cX5_stepsLeft 2 (some .int) 0 5 := ⟨(RX5, TX5, 9), rfl, rfl, by decide, by decide, zt_of (lw_tb (i := 554) rfl) rfl, zt_of (lw_tb (i := 552) (by decide +kernel)) rfl, zt_of (lw_tb (i := 553) (by decide +kernel)) rfl, zt_of (lw_tb (i := 2) (by decide +kernel)) rfl, by decide, by decide, by decide +kernel⟩
set_option maxRecDepth 100000 in
theorem yv_X5_endDay : zYv yX5_endDay cX5_endDay 1 none 0 5 := ⟨(RX5, TX5, 9), rfl, rfl, by decide, by decide, zt_of (lw_tb (i := 345) rfl) rfl, zt_of (lw_tb (i := 343) (by decide +kernel)) rfl, zt_of (lw_tb (i := 344) (by decide +kernel)) rfl, zt_of (lw_tb (i := 2) (by decide +kernel)) rfl, by decide, by decide, by decide +kernel⟩
set_option maxRecDepth 100000 in
theorem yv_X5_moveBy : zYv yX5_moveBy cX5_moveBy 5 (some .int) 1 5 := ⟨(RX5, TX5, 9), rfl, rfl, by decide, by decide, zt_of (lw_tb (i := 372) rfl) rfl, zt_of (lw_tb (i := 370) (by decide +kernel)) rfl, zt_of (lw_tb (i := 371) (by decide +kernel)) rfl, zt_of (lw_tb (i := 2) (by decide +kernel)) rfl, by decide, by decide, by decide +kernel⟩
set_option maxRecDepth 100000 in
theorem yv_X6_plan : zYv yX6_plan cX6_plan 4 (some .int) 2 6 := ⟨(RX6, TX6, 12), rfl, rfl, by decide, by decide, zt_of (lw_tb (i := 302) rfl) rfl, zt_of (lw_tb (i := 300) (by decide +kernel)) rfl, zt_of (lw_tb (i := 301) (by decide +kernel)) rfl, zt_of (lw_tb (i := 1) (by decide +kernel)) rfl, by decide, by decide, by decide +kernel⟩
set_option maxRecDepth 100000 in
theorem yv_X6_move : zYv yX6_move cX6_move 2 (some .int) 1 6 := ⟨(RX6, TX6, 12), rfl, rfl, by decide, by decide, zt_of (lw_tb (i := 318) rfl) rfl, zt_of (lw_tb (i := 316) (by decide +kernel)) rfl, zt_of (lw_tb (i := 317) (by decide +kernel)) rfl, zt_of (lw_tb (i := 1) (by decide +kernel)) rfl, by decide, by decide, by decide +kernel⟩
set_option maxRecDepth 100000 in
theorem yv_X6_may : zYv yX6_may cX6_may 2 (some .int) 1 6 := ⟨(RX6, TX6, 12), rfl, rfl, by decide, by decide, zt_of (lw_tb (i := 337) rfl) rfl, zt_of (lw_tb (i := 335) (by decide +kernel)) rfl, zt_of (lw_tb (i := 336) (by decide +kernel)) rfl, zt_of (lw_tb (i := 1) (by decide +kernel)) rfl, by decide, by decide, by decide +kernel⟩
set_option maxRecDepth 100000 in
theorem yv_X6_days : zYv yX6_days cX6_days 3 (some .int) 1 6 := ⟨(RX6, TX6, 12), rfl, rfl, by decide, by decide, zt_of (lw_tb (i := 341) rfl) rfl, zt_of (lw_tb (i := 339) (by decide +kernel)) rfl, zt_of (lw_tb (i := 340) (by decide +kernel)) rfl, zt_of (lw_tb (i := 1) (by decide +kernel)) rfl, by decide, by decide, by decide +kernel⟩
set_option maxRecDepth 100000 in
theorem yv_X6_runs : zYv yX6_runs cX6_runs 3 (some .int) 1 6 := ⟨(RX6, TX6, 12), rfl, rfl, by decide, by decide, zt_of (lw_tb (i := 368) rfl) rfl, zt_of (lw_tb (i := 366) (by decide +kernel)) rfl, zt_of (lw_tb (i := 367) (by decide +kernel)) rfl, zt_of (lw_tb (i := 1) (by decide +kernel)) rfl, by decide, by decide, by decide +kernel⟩
set_option maxRecDepth 100000 in
theorem yv_X6_thing : zYv yX6_thing cX6_thing 2 (some .long) 1 6 := ⟨(RX6, TX6, 12), rfl, rfl, by decide, by decide, zt_of (lw_tb (i := 445) rfl) rfl, zt_of (lw_tb (i := 443) (by decide +kernel)) rfl, zt_of (lw_tb (i := 444) (by decide +kernel)) rfl, zt_of (lw_tb (i := 1) (by decide +kernel)) rfl, by decide, by decide, by decide +kernel⟩
set_option maxRecDepth 100000 in
theorem yv_X6_warn : zYv yX6_warn cX6_warn 7 (some .int) 3 6 := ⟨(RX6, TX6, 12), rfl, rfl, by decide, by decide, zt_of (lw_tb (i := 449) rfl) rfl, zt_of (lw_tb (i := 447) (by decide +kernel)) rfl, zt_of (lw_tb (i := 448) (by decide +kernel)) rfl, zt_of (lw_tb (i := 1) (by decide +kernel)) rfl, by decide, by decide, by decide +kernel⟩
set_option maxRecDepth 100000 in
theorem yv_X6_of : zYv yX6_of cX6_of 4 (some .int) 2 6 := ⟨(RX6, TX6, 12), rfl, rfl, by decide, by decide, zt_of (lw_tb (i := 462) rfl) rfl, zt_of (lw_tb (i := 460) (by decide +kernel)) rfl, zt_of (lw_tb (i := 461) (by decide +kernel)) rfl, zt_of (lw_tb (i := 1) (by decide +kernel)) rfl, by decide, by decide, by decide +kernel⟩
set_option maxRecDepth 100000 in
theorem yv_X6_as : zYv yX6_as cX6_as 4 (some .int) 2 6 := ⟨(RX6, TX6, 12), rfl, rfl, by decide, by decide, zt_of (lw_tb (i := 471) rfl) rfl, zt_of (lw_tb (i := 469) (by decide +kernel)) rfl, zt_of (lw_tb (i := 470) (by decide +kernel)) rfl, zt_of (lw_tb (i := 1) (by decide +kernel)) rfl, by decide, by decide, by decide +kernel⟩
set_option maxRecDepth 100000 in
theorem yv_X6_struck : zYv yX6_struck cX6_struck 3 (some .int) 2 6 := ⟨(RX6, TX6, 12), rfl, rfl, by decide, by decide, zt_of (lw_tb (i := 482) rfl) rfl, zt_of (lw_tb (i := 480) (by decide +kernel)) rfl, zt_of (lw_tb (i := 481) (by decide +kernel)) rfl, zt_of (lw_tb (i := 1) (by decide +kernel)) rfl, by decide, by decide, by decide +kernel⟩
set_option maxRecDepth 100000 in
theorem yv_X6_look : zYv yX6_look cX6_look 6 (some .int) 3 6 := ⟨(RX6, TX6, 12), rfl, rfl, by decide, by decide, zt_of (lw_tb (i := 487) rfl) rfl, zt_of (lw_tb (i := 485) (by decide +kernel)) rfl, zt_of (lw_tb (i := 486) (by decide +kernel)) rfl, zt_of (lw_tb (i := 1) (by decide +kernel)) rfl, by decide, by decide, by decide +kernel⟩
set_option maxRecDepth 100000 in
theorem yv_X6_think : zYv yX6_think cX6_think 6 (some .int) 3 6 := ⟨(RX6, TX6, 12), rfl, rfl, by decide, by decide, zt_of (lw_tb (i := 499) rfl) rfl, zt_of (lw_tb (i := 497) (by decide +kernel)) rfl, zt_of (lw_tb (i := 498) (by decide +kernel)) rfl, zt_of (lw_tb (i := 1) (by decide +kernel)) rfl, by decide, by decide, by decide +kernel⟩
set_option maxRecDepth 100000 in
theorem yv_X6_danger : zYv yX6_danger cX6_danger 3 (some .int) 2 6 := ⟨(RX6, TX6, 12), rfl, rfl, by decide, by decide, zt_of (lw_tb (i := 503) rfl) rfl, zt_of (lw_tb (i := 501) (by decide +kernel)) rfl, zt_of (lw_tb (i := 502) (by decide +kernel)) rfl, zt_of (lw_tb (i := 1) (by decide +kernel)) rfl, by decide, by decide, by decide +kernel⟩
set_option maxRecDepth 100000 in
theorem yv_X6_safest : zYv yX6_safest cX6_safest 7 (some .int) 1 6 := ⟨(RX6, TX6, 12), rfl, rfl, by decide, by decide, zt_of (lw_tb (i := 508) rfl) rfl, zt_of (lw_tb (i := 506) (by decide +kernel)) rfl, zt_of (lw_tb (i := 507) (by decide +kernel)) rfl, zt_of (lw_tb (i := 1) (by decide +kernel)) rfl, by decide, by decide, by decide +kernel⟩
set_option maxRecDepth 100000 in
theorem yv_X6_open : zYv yX6_open cX6_open 3 (some .int) 0 6 := ⟨(RX6, TX6, 12), rfl, rfl, by decide, by decide, zt_of (lw_tb (i := 512) rfl) rfl, zt_of (lw_tb (i := 510) (by decide +kernel)) rfl, zt_of (lw_tb (i := 511) (by decide +kernel)) rfl, zt_of (lw_tb (i := 1) (by decide +kernel)) rfl, by decide, by decide, by decide +kernel⟩
set_option maxRecDepth 100000 in
theorem yv_X6_feed : zYv yX6_feed cX6_feed 4 (some .int) 2 6 := ⟨(RX6, TX6, 12), rfl, rfl, by decide, by decide, zt_of (lw_tb (i := 516) rfl) rfl, zt_of (lw_tb (i := 514) (by decide +kernel)) rfl, zt_of (lw_tb (i := 515) (by decide +kernel)) rfl, zt_of (lw_tb (i := 1) (by decide +kernel)) rfl, by decide, by decide, by decide +kernel⟩
set_option maxRecDepth 100000 in
theorem yv_X6_wipe : zYv yX6_wipe cX6_wipe 2 (some .int) 0 6 := ⟨(RX6, TX6, 12), rfl, rfl, by decide, by decide, zt_of (lw_tb (i := 520) rfl) rfl, zt_of (lw_tb (i := 518) (by decide +kernel)) rfl, zt_of (lw_tb (i := 519) (by decide +kernel)) rfl, zt_of (lw_tb (i := 1) (by decide +kernel)) rfl, by decide, by decide, by decide +kernel⟩
set_option maxRecDepth 100000 in
theorem yv_X6_rule : zYv yX6_rule cX6_rule 2 (some .int) 0 6 := ⟨(RX6, TX6, 12), rfl, rfl, by decide, by decide, zt_of (lw_tb (i := 524) rfl) rfl, zt_of (lw_tb (i := 522) (by decide +kernel)) rfl, zt_of (lw_tb (i := 523) (by decide +kernel)) rfl, zt_of (lw_tb (i := 1) (by decide +kernel)) rfl, by decide, by decide, by decide +kernel⟩
set_option maxRecDepth 100000 in
theorem yv_X6_drift : zYv yX6_drift cX6_drift 2 (some .int) 0 6 := ⟨(RX6, TX6, 12), rfl, rfl, by decide, by decide, zt_of (lw_tb (i := 535) rfl) rfl, zt_of (lw_tb (i := 533) (by decide +kernel)) rfl, zt_of (lw_tb (i := 534) (by decide +kernel)) rfl, zt_of (lw_tb (i := 1) (by decide +kernel)) rfl, by decide, by decide, by decide +kernel⟩
set_option maxRecDepth 100000 in
theorem yv_X6_says : zYv yX6_says cX6_says 2 (some .int) 1 6 := ⟨(RX6, TX6, 12), rfl, rfl, by decide, by decide, zt_of (lw_tb (i := 540) rfl) rfl, zt_of (lw_tb (i := 538) (by decide +kernel)) rfl, zt_of (lw_tb (i := 539) (by decide +kernel)) rfl, zt_of (lw_tb (i := 1) (by decide +kernel)) rfl, by decide, by decide, by decide +kernel⟩
set_option maxRecDepth 100000 in
theorem yv_X6_best : zYv yX6_best cX6_best 3 (some .long) 2 6 := ⟨(RX6, TX6, 12), rfl, rfl, by decide, by decide, zt_of (lw_tb (i := 545) rfl) rfl, zt_of (lw_tb (i := 543) (by decide +kernel)) rfl, zt_of (lw_tb (i := 544) (by decide +kernel)) rfl, zt_of (lw_tb (i := 1) (by decide +kernel)) rfl, by decide, by decide, by decide +kernel⟩
set_option maxRecDepth 100000 in
theorem yv_X6_turn : zYv yX6_turn cX6_turn 3 (some .int) 2 6 := ⟨(RX6, TX6, 12), rfl, rfl, by decide, by decide, zt_of (lw_tb (i := 599) rfl) rfl, zt_of (lw_tb (i := 597) (by decide +kernel)) rfl, zt_of (lw_tb (i := 598) (by decide +kernel)) rfl, zt_of (lw_tb (i := 1) (by decide +kernel)) rfl, by decide, by decide, by decide +kernel⟩
set_option maxRecDepth 100000 in
theorem yv_X6_rest : zYv yX6_rest cX6_rest 5 (some .long) 1 6 := ⟨(RX6, TX6, 12), rfl, rfl, by decide, by decide, zt_of (lw_tb (i := 603) rfl) rfl, zt_of (lw_tb (i := 601) (by decide +kernel)) rfl, zt_of (lw_tb (i := 602) (by decide +kernel)) rfl, zt_of (lw_tb (i := 1) (by decide +kernel)) rfl, by decide, by decide, by decide +kernel⟩
set_option maxRecDepth 100000 in
theorem yv_X6_home : zYv yX6_home cX6_home 4 (some .int) 2 6 := ⟨(RX6, TX6, 12), rfl, rfl, by decide, by decide, zt_of (lw_tb (i := 608) rfl) rfl, zt_of (lw_tb (i := 606) (by decide +kernel)) rfl, zt_of (lw_tb (i := 607) (by decide +kernel)) rfl, zt_of (lw_tb (i := 1) (by decide +kernel)) rfl, by decide, by decide, by decide +kernel⟩
set_option maxRecDepth 100000 in
theorem yv_X6_know : zYv yX6_know cX6_know 13 (some .long) 3 6 := ⟨(RX6, TX6, 12), rfl, rfl, by decide, by decide, zt_of (lw_tb (i := 617) rfl) rfl, zt_of (lw_tb (i := 615) (by decide +kernel)) rfl, zt_of (lw_tb (i := 616) (by decide +kernel)) rfl, zt_of (lw_tb (i := 1) (by decide +kernel)) rfl, by decide, by decide, by decide +kernel⟩
set_option maxRecDepth 100000 in
theorem yv_X6_life : zYv yX6_life cX6_life 4 (some .int) 2 6 := ⟨(RX6, TX6, 12), rfl, rfl, by decide, by decide, zt_of (lw_tb (i := 642) rfl) rfl, zt_of (lw_tb (i := 640) (by decide +kernel)) rfl, zt_of (lw_tb (i := 641) (by decide +kernel)) rfl, zt_of (lw_tb (i := 1) (by decide +kernel)) rfl, by decide, by decide, by decide +kernel⟩
set_option maxRecDepth 100000 in
theorem yv_X6_lives : zYv yX6_lives cX6_lives 6 (some .int) 3 6 := ⟨(RX6, TX6, 12), rfl, rfl, by decide, by decide, zt_of (lw_tb (i := 655) rfl) rfl, zt_of (lw_tb (i := 653) (by decide +kernel)) rfl, zt_of (lw_tb (i := 654) (by decide +kernel)) rfl, zt_of (lw_tb (i := 1) (by decide +kernel)) rfl, by decide, by decide, by decide +kernel⟩
set_option maxRecDepth 100000 in
theorem yv_X6_rests : zYv yX6_rests cX6_rests 3 (some .int) 1 6 := ⟨(RX6, TX6, 12), rfl, rfl, by decide, by decide, zt_of (lw_tb (i := 659) rfl) rfl, zt_of (lw_tb (i := 657) (by decide +kernel)) rfl, zt_of (lw_tb (i := 658) (by decide +kernel)) rfl, zt_of (lw_tb (i := 1) (by decide +kernel)) rfl, by decide, by decide, by decide +kernel⟩
set_option maxRecDepth 100000 in
theorem yv_X6_both : zYv yX6_both cX6_both 7 (some .int) 2 6 := ⟨(RX6, TX6, 12), rfl, rfl, by decide, by decide, zt_of (lw_tb (i := 687) rfl) rfl, zt_of (lw_tb (i := 685) (by decide +kernel)) rfl, zt_of (lw_tb (i := 686) (by decide +kernel)) rfl, zt_of (lw_tb (i := 1) (by decide +kernel)) rfl, by decide, by decide, by decide +kernel⟩
set_option maxRecDepth 100000 in
theorem yv_X6_swarm : zYv yX6_swarm cX6_swarm 6 (some .int) 4 6 := ⟨(RX6, TX6, 12), rfl, rfl, by decide, by decide, zt_of (lw_tb (i := 696) rfl) rfl, zt_of (lw_tb (i := 694) (by decide +kernel)) rfl, zt_of (lw_tb (i := 695) (by decide +kernel)) rfl, zt_of (lw_tb (i := 1) (by decide +kernel)) rfl, by decide, by decide, by decide +kernel⟩
set_option maxRecDepth 100000 in
theorem yv_X6_sheet : zYv yX6_sheet cX6_sheet 4 (some .int) 3 6 := ⟨(RX6, TX6, 12), rfl, rfl, by decide, by decide, zt_of (lw_tb (i := 743) rfl) rfl, zt_of (lw_tb (i := 741) (by decide +kernel)) rfl, zt_of (lw_tb (i := 742) (by decide +kernel)) rfl, zt_of (lw_tb (i := 1) (by decide +kernel)) rfl, by decide, by decide, by decide +kernel⟩
set_option maxRecDepth 100000 in
theorem yv_X6_write : zYv yX6_write cX6_write 8 (some .long) 3 6 := ⟨(RX6, TX6, 12), rfl, rfl, by decide, by decide, zt_of (lw_tb (i := 752) rfl) rfl, zt_of (lw_tb (i := 750) (by decide +kernel)) rfl, zt_of (lw_tb (i := 751) (by decide +kernel)) rfl, zt_of (lw_tb (i := 1) (by decide +kernel)) rfl, by decide, by decide, by decide +kernel⟩
set_option maxRecDepth 100000 in
theorem yv_X6_copy : zYv yX6_copy cX6_copy 6 (some .int) 5 6 := ⟨(RX6, TX6, 12), rfl, rfl, by decide, by decide, zt_of (lw_tb (i := 760) rfl) rfl, zt_of (lw_tb (i := 758) (by decide +kernel)) rfl, zt_of (lw_tb (i := 759) (by decide +kernel)) rfl, zt_of (lw_tb (i := 1) (by decide +kernel)) rfl, by decide, by decide, by decide +kernel⟩
set_option maxRecDepth 100000 in
theorem yv_X6_turns : zYv yX6_turns cX6_turns 7 (some .int) 1 6 := ⟨(RX6, TX6, 12), rfl, rfl, by decide, by decide, zt_of (lw_tb (i := 768) rfl) rfl, zt_of (lw_tb (i := 766) (by decide +kernel)) rfl, zt_of (lw_tb (i := 767) (by decide +kernel)) rfl, zt_of (lw_tb (i := 1) (by decide +kernel)) rfl, by decide, by decide, by decide +kernel⟩
set_option maxRecDepth 100000 in
theorem yv_X6_read : zYv yX6_read cX6_read 4 (some .int) 1 6 := ⟨(RX6, TX6, 12), rfl, rfl, by decide, by decide, zt_of (lw_tb (i := 774) rfl) rfl, zt_of (lw_tb (i := 772) (by decide +kernel)) rfl, zt_of (lw_tb (i := 773) (by decide +kernel)) rfl, zt_of (lw_tb (i := 1) (by decide +kernel)) rfl, by decide, by decide, by decide +kernel⟩
set_option maxRecDepth 100000 in
theorem yv_X6_image : zYv yX6_image cX6_image 1 (some .int) 0 6 := ⟨(RX6, TX6, 12), rfl, rfl, by decide, by decide, zt_of (lw_tb (i := 778) rfl) rfl, zt_of (lw_tb (i := 776) (by decide +kernel)) rfl, zt_of (lw_tb (i := 777) (by decide +kernel)) rfl, zt_of (lw_tb (i := 1) (by decide +kernel)) rfl, by decide, by decide, by decide +kernel⟩
set_option maxRecDepth 100000 in
theorem yv_X6_undo : zYv yX6_undo cX6_undo 1 (some .int) 0 6 := ⟨(RX6, TX6, 12), rfl, rfl, by decide, by decide, zt_of (lw_tb (i := 782) rfl) rfl, zt_of (lw_tb (i := 780) (by decide +kernel)) rfl, zt_of (lw_tb (i := 781) (by decide +kernel)) rfl, zt_of (lw_tb (i := 1) (by decide +kernel)) rfl, by decide, by decide, by decide +kernel⟩
set_option maxRecDepth 100000 in
theorem yv_X6_tear : zYv yX6_tear cX6_tear 2 (some .int) 0 6 := ⟨(RX6, TX6, 12), rfl, rfl, by decide, by decide, zt_of (lw_tb (i := 786) rfl) rfl, zt_of (lw_tb (i := 784) (by decide +kernel)) rfl, zt_of (lw_tb (i := 785) (by decide +kernel)) rfl, zt_of (lw_tb (i := 1) (by decide +kernel)) rfl, by decide, by decide, by decide +kernel⟩
set_option maxRecDepth 100000 in
theorem yv_X6_count : zYv yX6_count cX6_count 2 (some .int) 1 6 := ⟨(RX6, TX6, 12), rfl, rfl, by decide, by decide, zt_of (lw_tb (i := 790) rfl) rfl, zt_of (lw_tb (i := 788) (by decide +kernel)) rfl, zt_of (lw_tb (i := 789) (by decide +kernel)) rfl, zt_of (lw_tb (i := 1) (by decide +kernel)) rfl, by decide, by decide, by decide +kernel⟩
set_option maxRecDepth 100000 in
theorem yv_X6_status : zYv yX6_status cX6_status 4 (some .int) 1 6 := ⟨(RX6, TX6, 12), rfl, rfl, by decide, by decide, zt_of (lw_tb (i := 800) rfl) rfl, zt_of (lw_tb (i := 798) (by decide +kernel)) rfl, zt_of (lw_tb (i := 799) (by decide +kernel)) rfl, zt_of (lw_tb (i := 1) (by decide +kernel)) rfl, by decide, by decide, by decide +kernel⟩
set_option maxRecDepth 100000 in
theorem yv_X6_finding : zYv yX6_finding cX6_finding 3 (some .int) 1 6 := ⟨(RX6, TX6, 12), rfl, rfl, by decide, by decide, zt_of (lw_tb (i := 314) rfl) rfl, zt_of (lw_tb (i := 313) (by decide +kernel)) rfl, zt_of (lw_sb (i := 0) (by decide +kernel)) rfl, zt_of (lw_tb (i := 1) (by decide +kernel)) rfl, by decide, by decide, by decide +kernel⟩
set_option maxRecDepth 100000 in
theorem ys_X6_isOutside : zYs yX6_isOutside cX6_isOutside 3 (some .boolean) 3 := ⟨by decide, zt_of (lw_tb (i := 305) rfl) rfl, zt_of (lw_tb (i := 304) (by decide +kernel)) rfl, zt_of (lw_tb (i := 1) (by decide +kernel)) rfl, by decide, by decide, by decide +kernel⟩
set_option maxRecDepth 100000 in
theorem ys_X6_isNoMove : zYs yX6_isNoMove cX6_isNoMove 1 (some .boolean) 1 := ⟨by decide, zt_of (lw_tb (i := 321) rfl) rfl, zt_of (lw_tb (i := 320) (by decide +kernel)) rfl, zt_of (lw_tb (i := 1) (by decide +kernel)) rfl, by decide, by decide, by decide +kernel⟩
set_option maxRecDepth 100000 in
theorem ys_X6_isNoHeight : zYs yX6_isNoHeight cX6_isNoHeight 1 (some .boolean) 1 := ⟨by decide, zt_of (lw_tb (i := 452) rfl) rfl, zt_of (lw_tb (i := 451) (by decide +kernel)) rfl, zt_of (lw_tb (i := 1) (by decide +kernel)) rfl, by decide, by decide, by decide +kernel⟩
set_option maxRecDepth 100000 in
theorem ys_X6_isNoSureness : zYs yX6_isNoSureness cX6_isNoSureness 1 (some .boolean) 1 := ⟨by decide, zt_of (lw_tb (i := 490) rfl) rfl, zt_of (lw_tb (i := 489) (by decide +kernel)) rfl, zt_of (lw_tb (i := 1) (by decide +kernel)) rfl, by decide, by decide, by decide +kernel⟩
set_option maxRecDepth 100000 in
theorem ys_X6_isNoSheet : zYs yX6_isNoSheet cX6_isNoSheet 1 (some .boolean) 1 := ⟨by decide, zt_of (lw_tb (i := 670) rfl) rfl, zt_of (lw_tb (i := 669) (by decide +kernel)) rfl, zt_of (lw_tb (i := 1) (by decide +kernel)) rfl, by decide, by decide, by decide +kernel⟩
set_option maxRecDepth 100000 in
theorem yv_X6_isNoWarning : zYv yX6_isNoWarning cX6_isNoWarning 2 (some .boolean) 1 6 := ⟨(RX6, TX6, 12), rfl, rfl, by decide, by decide, zt_of (lw_tb (i := 466) rfl) rfl, zt_of (lw_tb (i := 465) (by decide +kernel)) rfl, zt_of (lw_sb (i := 12) (by decide +kernel)) rfl, zt_of (lw_tb (i := 1) (by decide +kernel)) rfl, by decide, by decide, by decide +kernel⟩
set_option maxRecDepth 100000 in
theorem yv_X6_findingOfSheet : zYv yX6_findingOfSheet cX6_findingOfSheet 2 (some .int) 1 6 := ⟨(RX6, TX6, 12), rfl, rfl, by decide, by decide, zt_of (lw_tb (i := 667) rfl) rfl, zt_of (lw_tb (i := 666) (by decide +kernel)) rfl, zt_of (lw_sb (i := 24) (by decide +kernel)) rfl, zt_of (lw_tb (i := 1) (by decide +kernel)) rfl, by decide, by decide, by decide +kernel⟩
set_option maxRecDepth 100000 in
theorem yv_X6_findingOfPair : zYv yX6_findingOfPair cX6_findingOfPair 3 (some .int) 1 6 := ⟨(RX6, TX6, 12), rfl, rfl, by decide, by decide, zt_of (lw_tb (i := 663) rfl) rfl, zt_of (lw_tb (i := 662) (by decide +kernel)) rfl, zt_of (lw_sb (i := 23) (by decide +kernel)) rfl, zt_of (lw_tb (i := 1) (by decide +kernel)) rfl, by decide, by decide, by decide +kernel⟩
set_option maxRecDepth 100000 in
theorem ys_X6_findingOfRow : zYs yX6_findingOfRow cX6_findingOfRow 1 (some .int) 1 := ⟨by decide, zt_of (lw_tb (i := 699) rfl) rfl, zt_of (lw_tb (i := 698) (by decide +kernel)) rfl, zt_of (lw_tb (i := 1) (by decide +kernel)) rfl, by decide, by decide, by decide +kernel⟩
set_option maxRecDepth 100000 in
theorem yv_X6_firstCalm : zYv yX6_firstCalm cX6_firstCalm 5 (some .int) 2 6 := ⟨(RX6, TX6, 12), rfl, rfl, by decide, by decide, zt_of (lw_tb (i := 612) rfl) rfl, zt_of (lw_tb (i := 611) (by decide +kernel)) rfl, zt_of (lw_sb (i := 20) (by decide +kernel)) rfl, zt_of (lw_tb (i := 1) (by decide +kernel)) rfl, by decide, by decide, by decide +kernel⟩
set_option maxRecDepth 100000 in
theorem yv_X6_foresee : zYv yX6_foresee cX6_foresee 3 none 1 6 := ⟨(RX6, TX6, 12), rfl, rfl, by decide, by decide, zt_of (lw_tb (i := 646) rfl) rfl, zt_of (lw_tb (i := 645) (by decide +kernel)) rfl, zt_of (lw_sb (i := 21) (by decide +kernel)) rfl, zt_of (lw_tb (i := 1) (by decide +kernel)) rfl, by decide, by decide, by decide +kernel⟩
set_option maxRecDepth 100000 in
theorem yv_X6_dayOfStrike : zYv yX6_dayOfStrike cX6_dayOfStrike 5 (some .int) 2 6 := ⟨(RX6, TX6, 12), rfl, rfl, by decide, by decide, zt_of (lw_tb (i := 650) rfl) rfl, zt_of (lw_tb (i := 649) (by decide +kernel)) rfl, zt_of (lw_sb (i := 22) (by decide +kernel)) rfl, zt_of (lw_tb (i := 1) (by decide +kernel)) rfl, by decide, by decide, by decide +kernel⟩
set_option maxRecDepth 100000 in
theorem ys_X6_restsOf : zYs yX6_restsOf cX6_restsOf 5 (some .int) 1 := ⟨by decide, zt_of (lw_tb (i := 683) rfl) rfl, zt_of (lw_tb (i := 682) (by decide +kernel)) rfl, zt_of (lw_tb (i := 1) (by decide +kernel)) rfl, by decide, by decide, by decide +kernel⟩
set_option maxRecDepth 100000 in
theorem ys_X6_mostTogether : zYs yX6_mostTogether cX6_mostTogether 5 (some .int) 2 := ⟨by decide, zt_of (lw_tb (i := 690) rfl) rfl, zt_of (lw_tb (i := 689) (by decide +kernel)) rfl, zt_of (lw_tb (i := 1) (by decide +kernel)) rfl, by decide, by decide, by decide +kernel⟩
set_option maxRecDepth 100000 in
theorem yv_X7_finding : zYv yX7_finding cX7_finding 2 (some .int) 1 7 := ⟨(RX7, TX7, 23), rfl, rfl, by decide, by decide, zt_of (lw_tb (i := 899) rfl) rfl, zt_of (lw_tb (i := 898) (by decide +kernel)) rfl, zt_of (lw_sb (i := 31) (by decide +kernel)) rfl, zt_of (lw_tb (i := 8) (by decide +kernel)) rfl, by decide, by decide, by decide +kernel⟩
set_option maxRecDepth 100000 in
theorem ys_X7_in : zYs yX7_in cX7_in 6 (some .boolean) 3 := ⟨by decide, zt_of (lw_tb (i := 888) rfl) rfl, zt_of (lw_tb (i := 887) (by decide +kernel)) rfl, zt_of (lw_tb (i := 8) (by decide +kernel)) rfl, by decide, by decide, by decide +kernel⟩
set_option maxRecDepth 100000 in
theorem ys_X7_size : zYs yX7_size cX7_size 1 (some .int) 1 := ⟨by decide, zt_of (lw_tb (i := 930) rfl) rfl, zt_of (lw_tb (i := 929) (by decide +kernel)) rfl, zt_of (lw_tb (i := 8) (by decide +kernel)) rfl, by decide, by decide, by decide +kernel⟩
set_option maxRecDepth 100000 in
theorem yv_X7_its : zYv yX7_its cX7_its 2 (some .int) 1 7 := ⟨(RX7, TX7, 23), rfl, rfl, by decide, by decide, zt_of (lw_tb (i := 904) rfl) rfl, zt_of (lw_tb (i := 903) (by decide +kernel)) rfl, zt_of (lw_sb (i := 32) (by decide +kernel)) rfl, zt_of (lw_tb (i := 8) (by decide +kernel)) rfl, by decide, by decide, by decide +kernel⟩
set_option maxRecDepth 100000 in
theorem yv_X7_today : zYv yX7_today cX7_today 1 (some .int) 0 7 := ⟨(RX7, TX7, 23), rfl, rfl, by decide, by decide, zt_of (lw_tb (i := 950) rfl) rfl, zt_of (lw_tb (i := 949) (by decide +kernel)) rfl, zt_of (lw_sb (i := 38) (by decide +kernel)) rfl, zt_of (lw_tb (i := 8) (by decide +kernel)) rfl, by decide, by decide, by decide +kernel⟩
set_option maxRecDepth 100000 in
theorem yv_X7_height : zYv yX7_height cX7_height 1 (some .int) 0 7 := ⟨(RX7, TX7, 23), rfl, rfl, by decide, by decide, zt_of (lw_tb (i := 917) rfl) rfl, zt_of (lw_tb (i := 916) (by decide +kernel)) rfl, zt_of (lw_sb (i := 33) (by decide +kernel)) rfl, zt_of (lw_tb (i := 8) (by decide +kernel)) rfl, by decide, by decide, by decide +kernel⟩
set_option maxRecDepth 100000 in
theorem yv_X7_fuel : zYv yX7_fuel cX7_fuel 1 (some .int) 0 7 := ⟨(RX7, TX7, 23), rfl, rfl, by decide, by decide, zt_of (lw_tb (i := 921) rfl) rfl, zt_of (lw_tb (i := 920) (by decide +kernel)) rfl, zt_of (lw_sb (i := 34) (by decide +kernel)) rfl, zt_of (lw_tb (i := 8) (by decide +kernel)) rfl, by decide, by decide, by decide +kernel⟩
set_option maxRecDepth 100000 in
theorem ys_X7_mostOf : zYs yX7_mostOf cX7_mostOf 1 (some .long) 1 := ⟨by decide, zt_of (lw_tb (i := 891) rfl) rfl, zt_of (lw_tb (i := 890) (by decide +kernel)) rfl, zt_of (lw_tb (i := 8) (by decide +kernel)) rfl, by decide, by decide, by decide +kernel⟩
set_option maxRecDepth 100000 in
theorem yv_X7_plan : zYv yX7_plan cX7_plan 4 (some .int) 2 7 := ⟨(RX7, TX7, 23), rfl, rfl, by decide, by decide, zt_of (lw_tb (i := 884) rfl) rfl, zt_of (lw_tb (i := 882) (by decide +kernel)) rfl, zt_of (lw_tb (i := 883) (by decide +kernel)) rfl, zt_of (lw_tb (i := 8) (by decide +kernel)) rfl, by decide, by decide, by decide +kernel⟩
set_option maxRecDepth 100000 in
theorem yv_X7_can : zYv yX7_can cX7_can 4 (some .boolean) 3 7 := ⟨(RX7, TX7, 23), rfl, rfl, by decide, by decide, zt_of (lw_tb (i := 925) rfl) rfl, zt_of (lw_tb (i := 924) (by decide +kernel)) rfl, zt_of (lw_sb (i := 35) (by decide +kernel)) rfl, zt_of (lw_tb (i := 8) (by decide +kernel)) rfl, by decide, by decide, by decide +kernel⟩
set_option maxRecDepth 100000 in
theorem ys_X7_isMove : zYs yX7_isMove cX7_isMove 2 (some .boolean) 1 := ⟨by decide, zt_of (lw_tb (i := 911) rfl) rfl, zt_of (lw_tb (i := 910) (by decide +kernel)) rfl, zt_of (lw_tb (i := 8) (by decide +kernel)) rfl, by decide, by decide, by decide +kernel⟩
set_option maxRecDepth 100000 in
theorem yv_X7_goes : zYv yX7_goes cX7_goes 2 none 1 7 := ⟨(RX7, TX7, 23), rfl, rfl, by decide, by decide, zt_of (lw_tb (i := 934) rfl) rfl, zt_of (lw_tb (i := 933) (by decide +kernel)) rfl, zt_of (lw_sb (i := 36) (by decide +kernel)) rfl, zt_of (lw_tb (i := 8) (by decide +kernel)) rfl, by decide, by decide, by decide +kernel⟩
set_option maxRecDepth 100000 in
theorem yv_X7_move : zYv yX7_move cX7_move 2 (some .int) 1 7 := ⟨(RX7, TX7, 23), rfl, rfl, by decide, by decide, zt_of (lw_tb (i := 908) rfl) rfl, zt_of (lw_tb (i := 906) (by decide +kernel)) rfl, zt_of (lw_tb (i := 907) (by decide +kernel)) rfl, zt_of (lw_tb (i := 8) (by decide +kernel)) rfl, by decide, by decide, by decide +kernel⟩
set_option maxRecDepth 100000 in
theorem yv_X7_may : zYv yX7_may cX7_may 2 (some .int) 1 7 := ⟨(RX7, TX7, 23), rfl, rfl, by decide, by decide, zt_of (lw_tb (i := 938) rfl) rfl, zt_of (lw_tb (i := 936) (by decide +kernel)) rfl, zt_of (lw_tb (i := 937) (by decide +kernel)) rfl, zt_of (lw_tb (i := 8) (by decide +kernel)) rfl, by decide, by decide, by decide +kernel⟩
set_option maxRecDepth 100000 in
theorem yv_X7_useAt : zYv yX7_useAt cX7_useAt 4 (some .long) 1 7 := ⟨(RX7, TX7, 23), rfl, rfl, by decide, by decide, zt_of (lw_tb (i := 1000) rfl) rfl, zt_of (lw_tb (i := 999) (by decide +kernel)) rfl, zt_of (lw_sb (i := 48) (by decide +kernel)) rfl, zt_of (lw_tb (i := 8) (by decide +kernel)) rfl, by decide, by decide, by decide +kernel⟩
set_option maxRecDepth 100000 in
theorem yv_X7_ends : zYv yX7_ends cX7_ends 1 none 0 7 := ⟨(RX7, TX7, 23), rfl, rfl, by decide, by decide, zt_of (lw_tb (i := 996) rfl) rfl, zt_of (lw_tb (i := 995) (by decide +kernel)) rfl, zt_of (lw_sb (i := 47) (by decide +kernel)) rfl, zt_of (lw_tb (i := 8) (by decide +kernel)) rfl, by decide, by decide, by decide +kernel⟩
set_option maxRecDepth 100000 in
theorem yv_X7_go : zYv yX7_go cX7_go 4 (some .int) 2 7 := ⟨(RX7, TX7, 23), rfl, rfl, by decide, by decide, zt_of (lw_tb (i := 946) rfl) rfl, zt_of (lw_tb (i := 945) (by decide +kernel)) rfl, zt_of (lw_sb (i := 37) (by decide +kernel)) rfl, zt_of (lw_tb (i := 8) (by decide +kernel)) rfl, by decide, by decide, by decide +kernel⟩
set_option maxRecDepth 100000 in
theorem yv_X7_days : zYv yX7_days cX7_days 2 (some .int) 1 7 := ⟨(RX7, TX7, 23), rfl, rfl, by decide, by decide, zt_of (lw_tb (i := 942) rfl) rfl, zt_of (lw_tb (i := 940) (by decide +kernel)) rfl, zt_of (lw_tb (i := 941) (by decide +kernel)) rfl, zt_of (lw_tb (i := 8) (by decide +kernel)) rfl, by decide, by decide, by decide +kernel⟩
set_option maxRecDepth 100000 in
theorem yv_X7_runs : zYv yX7_runs cX7_runs 2 (some .int) 1 7 := ⟨(RX7, TX7, 23), rfl, rfl, by decide, by decide, zt_of (lw_tb (i := 1004) rfl) rfl, zt_of (lw_tb (i := 1002) (by decide +kernel)) rfl, zt_of (lw_tb (i := 1003) (by decide +kernel)) rfl, zt_of (lw_tb (i := 8) (by decide +kernel)) rfl, by decide, by decide, by decide +kernel⟩
set_option maxRecDepth 100000 in
theorem yv_X7_thing : zYv yX7_thing cX7_thing 2 (some .long) 1 7 := ⟨(RX7, TX7, 23), rfl, rfl, by decide, by decide, zt_of (lw_tb (i := 1008) rfl) rfl, zt_of (lw_tb (i := 1006) (by decide +kernel)) rfl, zt_of (lw_tb (i := 1007) (by decide +kernel)) rfl, zt_of (lw_tb (i := 8) (by decide +kernel)) rfl, by decide, by decide, by decide +kernel⟩
set_option maxRecDepth 100000 in
theorem yv_X7_isWarning : zYv yX7_isWarning cX7_isWarning 2 (some .boolean) 1 7 := ⟨(RX7, TX7, 23), rfl, rfl, by decide, by decide, zt_of (lw_tb (i := 1020) rfl) rfl, zt_of (lw_tb (i := 1019) (by decide +kernel)) rfl, zt_of (lw_sb (i := 49) (by decide +kernel)) rfl, zt_of (lw_tb (i := 8) (by decide +kernel)) rfl, by decide, by decide, by decide +kernel⟩
set_option maxRecDepth 100000 in
theorem yv_X7_of1 : zYv yX7_of1 cX7_of1 3 (some .int) 2 7 := ⟨(RX7, TX7, 23), rfl, rfl, by decide, by decide, zt_of (lw_tb (i := 966) rfl) rfl, zt_of (lw_tb (i := 965) (by decide +kernel)) rfl, zt_of (lw_sb (i := 42) (by decide +kernel)) rfl, zt_of (lw_tb (i := 8) (by decide +kernel)) rfl, by decide, by decide, by decide +kernel⟩
set_option maxRecDepth 100000 in
theorem yv_X7_isOpen : zYv yX7_isOpen cX7_isOpen 3 (some .boolean) 2 7 := ⟨(RX7, TX7, 23), rfl, rfl, by decide, by decide, zt_of (lw_tb (i := 989) rfl) rfl, zt_of (lw_tb (i := 988) (by decide +kernel)) rfl, zt_of (lw_sb (i := 46) (by decide +kernel)) rfl, zt_of (lw_tb (i := 8) (by decide +kernel)) rfl, by decide, by decide, by decide +kernel⟩
set_option maxRecDepth 100000 in
theorem yv_X7_warn : zYv yX7_warn cX7_warn 6 (some .int) 3 7 := ⟨(RX7, TX7, 23), rfl, rfl, by decide, by decide, zt_of (lw_tb (i := 1012) rfl) rfl, zt_of (lw_tb (i := 1010) (by decide +kernel)) rfl, zt_of (lw_tb (i := 1011) (by decide +kernel)) rfl, zt_of (lw_tb (i := 8) (by decide +kernel)) rfl, by decide, by decide, by decide +kernel⟩
set_option maxRecDepth 100000 in
theorem yv_X7_of : zYv yX7_of cX7_of 3 (some .int) 2 7 := ⟨(RX7, TX7, 23), rfl, rfl, by decide, by decide, zt_of (lw_tb (i := 1016) rfl) rfl, zt_of (lw_tb (i := 1014) (by decide +kernel)) rfl, zt_of (lw_tb (i := 1015) (by decide +kernel)) rfl, zt_of (lw_tb (i := 8) (by decide +kernel)) rfl, by decide, by decide, by decide +kernel⟩
set_option maxRecDepth 100000 in
theorem yv_X7_as : zYv yX7_as cX7_as 5 (some .int) 2 7 := ⟨(RX7, TX7, 23), rfl, rfl, by decide, by decide, zt_of (lw_tb (i := 1025) rfl) rfl, zt_of (lw_tb (i := 1023) (by decide +kernel)) rfl, zt_of (lw_tb (i := 1024) (by decide +kernel)) rfl, zt_of (lw_tb (i := 8) (by decide +kernel)) rfl, by decide, by decide, by decide +kernel⟩
set_option maxRecDepth 100000 in
theorem ys_X7_plain : zYs yX7_plain cX7_plain 3 (some .int) 3 := ⟨by decide, zt_of (lw_tb (i := 977) rfl) rfl, zt_of (lw_tb (i := 976) (by decide +kernel)) rfl, zt_of (lw_tb (i := 8) (by decide +kernel)) rfl, by decide, by decide, by decide +kernel⟩
set_option maxRecDepth 100000 in
theorem ys_X7_close : zYs yX7_close cX7_close 2 (some .int) 1 := ⟨by decide, zt_of (lw_tb (i := 980) rfl) rfl, zt_of (lw_tb (i := 979) (by decide +kernel)) rfl, zt_of (lw_tb (i := 8) (by decide +kernel)) rfl, by decide, by decide, by decide +kernel⟩
set_option maxRecDepth 100000 in
theorem yv_X7_struckBy : zYv yX7_struckBy cX7_struckBy 6 (some .int) 2 7 := ⟨(RX7, TX7, 23), rfl, rfl, by decide, by decide, zt_of (lw_tb (i := 974) rfl) rfl, zt_of (lw_tb (i := 973) (by decide +kernel)) rfl, zt_of (lw_sb (i := 44) (by decide +kernel)) rfl, zt_of (lw_tb (i := 8) (by decide +kernel)) rfl, by decide, by decide, by decide +kernel⟩
set_option maxRecDepth 100000 in
theorem ys_X7_isHeight : zYs yX7_isHeight cX7_isHeight 1 (some .boolean) 1 := ⟨by decide, zt_of (lw_tb (i := 1032) rfl) rfl, zt_of (lw_tb (i := 1031) (by decide +kernel)) rfl, zt_of (lw_tb (i := 8) (by decide +kernel)) rfl, by decide, by decide, by decide +kernel⟩
set_option maxRecDepth 100000 in
theorem yv_X7_struck : zYv yX7_struck cX7_struck 3 (some .int) 2 7 := ⟨(RX7, TX7, 23), rfl, rfl, by decide, by decide, zt_of (lw_tb (i := 1029) rfl) rfl, zt_of (lw_tb (i := 1027) (by decide +kernel)) rfl, zt_of (lw_tb (i := 1028) (by decide +kernel)) rfl, zt_of (lw_tb (i := 8) (by decide +kernel)) rfl, by decide, by decide, by decide +kernel⟩
set_option maxRecDepth 100000 in
theorem yv_X7_behind : zYv yX7_behind cX7_behind 10 (some .int) 3 7 := ⟨(RX7, TX7, 23), rfl, rfl, by decide, by decide, zt_of (lw_tb (i := 1045) rfl) rfl, zt_of (lw_tb (i := 1044) (by decide +kernel)) rfl, zt_of (lw_sb (i := 51) (by decide +kernel)) rfl, zt_of (lw_tb (i := 8) (by decide +kernel)) rfl, by decide, by decide, by decide +kernel⟩
set_option maxRecDepth 100000 in
theorem yv_X7_looks : zYv yX7_looks cX7_looks 6 (some .int) 4 7 := ⟨(RX7, TX7, 23), rfl, rfl, by decide, by decide, zt_of (lw_tb (i := 1040) rfl) rfl, zt_of (lw_tb (i := 1039) (by decide +kernel)) rfl, zt_of (lw_sb (i := 50) (by decide +kernel)) rfl, zt_of (lw_tb (i := 8) (by decide +kernel)) rfl, by decide, by decide, by decide +kernel⟩
set_option maxRecDepth 100000 in
theorem yv_X7_look : zYv yX7_look cX7_look 4 (some .int) 3 7 := ⟨(RX7, TX7, 23), rfl, rfl, by decide, by decide, zt_of (lw_tb (i := 1036) rfl) rfl, zt_of (lw_tb (i := 1034) (by decide +kernel)) rfl, zt_of (lw_tb (i := 1035) (by decide +kernel)) rfl, zt_of (lw_tb (i := 8) (by decide +kernel)) rfl, by decide, by decide, by decide +kernel⟩
set_option maxRecDepth 100000 in
theorem yv_X7_think : zYv yX7_think cX7_think 4 (some .int) 3 7 := ⟨(RX7, TX7, 23), rfl, rfl, by decide, by decide, zt_of (lw_tb (i := 1049) rfl) rfl, zt_of (lw_tb (i := 1047) (by decide +kernel)) rfl, zt_of (lw_tb (i := 1048) (by decide +kernel)) rfl, zt_of (lw_tb (i := 8) (by decide +kernel)) rfl, by decide, by decide, by decide +kernel⟩
set_option maxRecDepth 100000 in
theorem yv_X7_dangerAt : zYv yX7_dangerAt cX7_dangerAt 5 (some .int) 2 7 := ⟨(RX7, TX7, 23), rfl, rfl, by decide, by decide, zt_of (lw_tb (i := 970) rfl) rfl, zt_of (lw_tb (i := 969) (by decide +kernel)) rfl, zt_of (lw_sb (i := 43) (by decide +kernel)) rfl, zt_of (lw_tb (i := 8) (by decide +kernel)) rfl, by decide, by decide, by decide +kernel⟩
set_option maxRecDepth 100000 in
theorem ys_X7_isDay : zYs yX7_isDay cX7_isDay 1 (some .boolean) 1 := ⟨by decide, zt_of (lw_tb (i := 1056) rfl) rfl, zt_of (lw_tb (i := 1055) (by decide +kernel)) rfl, zt_of (lw_tb (i := 8) (by decide +kernel)) rfl, by decide, by decide, by decide +kernel⟩
set_option maxRecDepth 100000 in
theorem yv_X7_danger : zYv yX7_danger cX7_danger 3 (some .int) 2 7 := ⟨(RX7, TX7, 23), rfl, rfl, by decide, by decide, zt_of (lw_tb (i := 1053) rfl) rfl, zt_of (lw_tb (i := 1051) (by decide +kernel)) rfl, zt_of (lw_tb (i := 1052) (by decide +kernel)) rfl, zt_of (lw_tb (i := 8) (by decide +kernel)) rfl, by decide, by decide, by decide +kernel⟩
set_option maxRecDepth 100000 in
theorem yv_X7_safest : zYv yX7_safest cX7_safest 5 (some .int) 1 7 := ⟨(RX7, TX7, 23), rfl, rfl, by decide, by decide, zt_of (lw_tb (i := 1060) rfl) rfl, zt_of (lw_tb (i := 1058) (by decide +kernel)) rfl, zt_of (lw_tb (i := 1059) (by decide +kernel)) rfl, zt_of (lw_tb (i := 8) (by decide +kernel)) rfl, by decide, by decide, by decide +kernel⟩
set_option maxRecDepth 100000 in
theorem yv_X7_open : zYv yX7_open cX7_open 3 (some .int) 0 7 := ⟨(RX7, TX7, 23), rfl, rfl, by decide, by decide, zt_of (lw_tb (i := 1064) rfl) rfl, zt_of (lw_tb (i := 1062) (by decide +kernel)) rfl, zt_of (lw_tb (i := 1063) (by decide +kernel)) rfl, zt_of (lw_tb (i := 8) (by decide +kernel)) rfl, by decide, by decide, by decide +kernel⟩
set_option maxRecDepth 100000 in
theorem yv_X7_feed : zYv yX7_feed cX7_feed 4 (some .int) 2 7 := ⟨(RX7, TX7, 23), rfl, rfl, by decide, by decide, zt_of (lw_tb (i := 1068) rfl) rfl, zt_of (lw_tb (i := 1066) (by decide +kernel)) rfl, zt_of (lw_tb (i := 1067) (by decide +kernel)) rfl, zt_of (lw_tb (i := 8) (by decide +kernel)) rfl, by decide, by decide, by decide +kernel⟩
set_option maxRecDepth 100000 in
theorem yv_X7_wipe : zYv yX7_wipe cX7_wipe 2 (some .int) 0 7 := ⟨(RX7, TX7, 23), rfl, rfl, by decide, by decide, zt_of (lw_tb (i := 1073) rfl) rfl, zt_of (lw_tb (i := 1071) (by decide +kernel)) rfl, zt_of (lw_tb (i := 1072) (by decide +kernel)) rfl, zt_of (lw_tb (i := 8) (by decide +kernel)) rfl, by decide, by decide, by decide +kernel⟩
set_option maxRecDepth 100000 in
theorem yv_X7_here : zYv yX7_here cX7_here 1 (some .int) 0 7 := ⟨(RX7, TX7, 23), rfl, rfl, by decide, by decide, zt_of (lw_tb (i := 1093) rfl) rfl, zt_of (lw_tb (i := 1092) (by decide +kernel)) rfl, zt_of (lw_sb (i := 55) (by decide +kernel)) rfl, zt_of (lw_tb (i := 8) (by decide +kernel)) rfl, by decide, by decide, by decide +kernel⟩
set_option maxRecDepth 100000 in
theorem yv_X7_takes : zYv yX7_takes cX7_takes 2 (some .boolean) 1 7 := ⟨(RX7, TX7, 23), rfl, rfl, by decide, by decide, zt_of (lw_tb (i := 1110) rfl) rfl, zt_of (lw_tb (i := 1109) (by decide +kernel)) rfl, zt_of (lw_sb (i := 58) (by decide +kernel)) rfl, zt_of (lw_tb (i := 8) (by decide +kernel)) rfl, by decide, by decide, by decide +kernel⟩
set_option maxRecDepth 100000 in
theorem yv_X7_lays : zYv yX7_lays cX7_lays 3 none 2 7 := ⟨(RX7, TX7, 23), rfl, rfl, by decide, by decide, zt_of (lw_tb (i := 1100) rfl) rfl, zt_of (lw_tb (i := 1099) (by decide +kernel)) rfl, zt_of (lw_sb (i := 56) (by decide +kernel)) rfl, zt_of (lw_tb (i := 8) (by decide +kernel)) rfl, by decide, by decide, by decide +kernel⟩
set_option maxRecDepth 100000 in
theorem yv_X7_whole : zYv yX7_whole cX7_whole 4 (some .boolean) 0 7 := ⟨(RX7, TX7, 23), rfl, rfl, by decide, by decide, zt_of (lw_tb (i := 1081) rfl) rfl, zt_of (lw_tb (i := 1080) (by decide +kernel)) rfl, zt_of (lw_sb (i := 52) (by decide +kernel)) rfl, zt_of (lw_tb (i := 8) (by decide +kernel)) rfl, by decide, by decide, by decide +kernel⟩
set_option maxRecDepth 100000 in
theorem yv_X7_isCompare : zYv yX7_isCompare cX7_isCompare 1 (some .boolean) 0 7 := ⟨(RX7, TX7, 23), rfl, rfl, by decide, by decide, zt_of (lw_tb (i := 1114) rfl) rfl, zt_of (lw_tb (i := 1113) (by decide +kernel)) rfl, zt_of (lw_sb (i := 59) (by decide +kernel)) rfl, zt_of (lw_tb (i := 8) (by decide +kernel)) rfl, by decide, by decide, by decide +kernel⟩
set_option maxRecDepth 100000 in
theorem yv_X7_condition : zYv yX7_condition cX7_condition 1 (some .boolean) 0 7 := ⟨(RX7, TX7, 23), rfl, rfl, by decide, by decide, zt_of (lw_tb (i := 1118) rfl) rfl, zt_of (lw_tb (i := 1117) (by decide +kernel)) rfl, zt_of (lw_sb (i := 60) (by decide +kernel)) rfl, zt_of (lw_tb (i := 8) (by decide +kernel)) rfl, by decide, by decide, by decide +kernel⟩
set_option maxRecDepth 100000 in
theorem yv_X7_compared : zYv yX7_compared cX7_compared 2 (some .boolean) 0 7 := ⟨(RX7, TX7, 23), rfl, rfl, by decide, by decide, zt_of (lw_tb (i := 1122) rfl) rfl, zt_of (lw_tb (i := 1121) (by decide +kernel)) rfl, zt_of (lw_sb (i := 61) (by decide +kernel)) rfl, zt_of (lw_tb (i := 8) (by decide +kernel)) rfl, by decide, by decide, by decide +kernel⟩
set_option maxRecDepth 100000 in
theorem yv_X7_sum : zYv yX7_sum cX7_sum 2 (some .boolean) 0 7 := ⟨(RX7, TX7, 23), rfl, rfl, by decide, by decide, zt_of (lw_tb (i := 1085) rfl) rfl, zt_of (lw_tb (i := 1084) (by decide +kernel)) rfl, zt_of (lw_sb (i := 53) (by decide +kernel)) rfl, zt_of (lw_tb (i := 8) (by decide +kernel)) rfl, by decide, by decide, by decide +kernel⟩
set_option maxRecDepth 100000 in
theorem ys_X7_isName : zYs yX7_isName cX7_isName 1 (some .boolean) 1 := ⟨by decide, zt_of (lw_tb (i := 1096) rfl) rfl, zt_of (lw_tb (i := 1095) (by decide +kernel)) rfl, zt_of (lw_tb (i := 8) (by decide +kernel)) rfl, by decide, by decide, by decide +kernel⟩
set_option maxRecDepth 100000 in
theorem yv_X7_opens : zYv yX7_opens cX7_opens 1 (some .boolean) 0 7 := ⟨(RX7, TX7, 23), rfl, rfl, by decide, by decide, zt_of (lw_tb (i := 1106) rfl) rfl, zt_of (lw_tb (i := 1105) (by decide +kernel)) rfl, zt_of (lw_sb (i := 57) (by decide +kernel)) rfl, zt_of (lw_tb (i := 8) (by decide +kernel)) rfl, by decide, by decide, by decide +kernel⟩
set_option maxRecDepth 100000 in
theorem yv_X7_part : zYv yX7_part cX7_part 4 (some .boolean) 0 7 := ⟨(RX7, TX7, 23), rfl, rfl, by decide, by decide, zt_of (lw_tb (i := 1089) rfl) rfl, zt_of (lw_tb (i := 1088) (by decide +kernel)) rfl, zt_of (lw_sb (i := 54) (by decide +kernel)) rfl, zt_of (lw_tb (i := 8) (by decide +kernel)) rfl, by decide, by decide, by decide +kernel⟩
set_option maxRecDepth 100000 in
theorem yv_X7_rule : zYv yX7_rule cX7_rule 3 (some .int) 0 7 := ⟨(RX7, TX7, 23), rfl, rfl, by decide, by decide, zt_of (lw_tb (i := 1077) rfl) rfl, zt_of (lw_tb (i := 1075) (by decide +kernel)) rfl, zt_of (lw_tb (i := 1076) (by decide +kernel)) rfl, zt_of (lw_tb (i := 8) (by decide +kernel)) rfl, by decide, by decide, by decide +kernel⟩
set_option maxRecDepth 100000 in
theorem yv_X7_drift : zYv yX7_drift cX7_drift 2 (some .int) 0 7 := ⟨(RX7, TX7, 23), rfl, rfl, by decide, by decide, zt_of (lw_tb (i := 1126) rfl) rfl, zt_of (lw_tb (i := 1124) (by decide +kernel)) rfl, zt_of (lw_tb (i := 1125) (by decide +kernel)) rfl, zt_of (lw_tb (i := 8) (by decide +kernel)) rfl, by decide, by decide, by decide +kernel⟩
set_option maxRecDepth 100000 in
theorem ys_X7_joined : zYs yX7_joined cX7_joined 3 (some .int) 3 := ⟨by decide, zt_of (lw_tb (i := 992) rfl) rfl, zt_of (lw_tb (i := 991) (by decide +kernel)) rfl, zt_of (lw_tb (i := 8) (by decide +kernel)) rfl, by decide, by decide, by decide +kernel⟩
set_option maxRecDepth 100000 in
theorem yv_X7_nextDay : zYv yX7_nextDay cX7_nextDay 5 (some .int) 1 7 := ⟨(RX7, TX7, 23), rfl, rfl, by decide, by decide, zt_of (lw_tb (i := 962) rfl) rfl, zt_of (lw_tb (i := 961) (by decide +kernel)) rfl, zt_of (lw_sb (i := 41) (by decide +kernel)) rfl, zt_of (lw_tb (i := 8) (by decide +kernel)) rfl, by decide, by decide, by decide +kernel⟩
set_option maxRecDepth 100000 in
theorem yv_X7_openMany : zYv yX7_openMany cX7_openMany 4 (some .int) 1 7 := ⟨(RX7, TX7, 23), rfl, rfl, by decide, by decide, zt_of (lw_tb (i := 985) rfl) rfl, zt_of (lw_tb (i := 984) (by decide +kernel)) rfl, zt_of (lw_sb (i := 45) (by decide +kernel)) rfl, zt_of (lw_tb (i := 8) (by decide +kernel)) rfl, by decide, by decide, by decide +kernel⟩
set_option maxRecDepth 100000 in
theorem yv_X7_told : zYv yX7_told cX7_told 9 (some .int) 3 7 := ⟨(RX7, TX7, 23), rfl, rfl, by decide, by decide, zt_of (lw_tb (i := 958) rfl) rfl, zt_of (lw_tb (i := 957) (by decide +kernel)) rfl, zt_of (lw_sb (i := 40) (by decide +kernel)) rfl, zt_of (lw_tb (i := 8) (by decide +kernel)) rfl, by decide, by decide, by decide +kernel⟩
set_option maxRecDepth 100000 in
theorem yv_X7_movesBy : zYv yX7_movesBy cX7_movesBy 6 (some .int) 3 7 := ⟨(RX7, TX7, 23), rfl, rfl, by decide, by decide, zt_of (lw_tb (i := 954) rfl) rfl, zt_of (lw_tb (i := 953) (by decide +kernel)) rfl, zt_of (lw_sb (i := 39) (by decide +kernel)) rfl, zt_of (lw_tb (i := 8) (by decide +kernel)) rfl, by decide, by decide, by decide +kernel⟩
set_option maxRecDepth 100000 in
theorem yv_X7_says : zYv yX7_says cX7_says 2 (some .int) 1 7 := ⟨(RX7, TX7, 23), rfl, rfl, by decide, by decide, zt_of (lw_tb (i := 1130) rfl) rfl, zt_of (lw_tb (i := 1128) (by decide +kernel)) rfl, zt_of (lw_tb (i := 1129) (by decide +kernel)) rfl, zt_of (lw_tb (i := 8) (by decide +kernel)) rfl, by decide, by decide, by decide +kernel⟩
set_option maxRecDepth 100000 in
theorem ys_X7_place : zYs yX7_place cX7_place 3 (some .int) 3 := ⟨by decide, zt_of (lw_tb (i := 1158) rfl) rfl, zt_of (lw_tb (i := 1157) (by decide +kernel)) rfl, zt_of (lw_tb (i := 8) (by decide +kernel)) rfl, by decide, by decide, by decide +kernel⟩
set_option maxRecDepth 100000 in
theorem yv_X7_dayWorth : zYv yX7_dayWorth cX7_dayWorth 3 (some .long) 2 7 := ⟨(RX7, TX7, 23), rfl, rfl, by decide, by decide, zt_of (lw_tb (i := 1151) rfl) rfl, zt_of (lw_tb (i := 1150) (by decide +kernel)) rfl, zt_of (lw_sb (i := 64) (by decide +kernel)) rfl, zt_of (lw_tb (i := 8) (by decide +kernel)) rfl, by decide, by decide, by decide +kernel⟩
set_option maxRecDepth 100000 in
theorem ys_X7_moveAt : zYs yX7_moveAt cX7_moveAt 1 (some .int) 1 := ⟨by decide, zt_of (lw_tb (i := 1161) rfl) rfl, zt_of (lw_tb (i := 1160) (by decide +kernel)) rfl, zt_of (lw_tb (i := 8) (by decide +kernel)) rfl, by decide, by decide, by decide +kernel⟩
set_option maxRecDepth 100000 in
theorem yv_X7_findBest : zYv yX7_findBest cX7_findBest 5 none 1 7 := ⟨(RX7, TX7, 23), rfl, rfl, by decide, by decide, zt_of (lw_tb (i := 1147) rfl) rfl, zt_of (lw_tb (i := 1146) (by decide +kernel)) rfl, zt_of (lw_sb (i := 63) (by decide +kernel)) rfl, zt_of (lw_tb (i := 8) (by decide +kernel)) rfl, by decide, by decide, by decide +kernel⟩
set_option maxRecDepth 100000 in
theorem yv_X7_findOne : zYv yX7_findOne cX7_findOne 13 none 3 7 := ⟨(RX7, TX7, 23), rfl, rfl, by decide, by decide, zt_of (lw_tb (i := 1155) rfl) rfl, zt_of (lw_tb (i := 1154) (by decide +kernel)) rfl, zt_of (lw_sb (i := 65) (by decide +kernel)) rfl, zt_of (lw_tb (i := 8) (by decide +kernel)) rfl, by decide, by decide, by decide +kernel⟩
set_option maxRecDepth 100000 in
theorem yv_X7_bestWorth : zYv yX7_bestWorth cX7_bestWorth 2 (some .long) 1 7 := ⟨(RX7, TX7, 23), rfl, rfl, by decide, by decide, zt_of (lw_tb (i := 1143) rfl) rfl, zt_of (lw_tb (i := 1142) (by decide +kernel)) rfl, zt_of (lw_sb (i := 62) (by decide +kernel)) rfl, zt_of (lw_tb (i := 8) (by decide +kernel)) rfl, by decide, by decide, by decide +kernel⟩
set_option maxRecDepth 100000 in
theorem yv_X7_moveOf : zYv yX7_moveOf cX7_moveOf 7 (some .int) 2 7 := ⟨(RX7, TX7, 23), rfl, rfl, by decide, by decide, zt_of (lw_tb (i := 1165) rfl) rfl, zt_of (lw_tb (i := 1164) (by decide +kernel)) rfl, zt_of (lw_sb (i := 66) (by decide +kernel)) rfl, zt_of (lw_tb (i := 8) (by decide +kernel)) rfl, by decide, by decide, by decide +kernel⟩
set_option maxRecDepth 100000 in
theorem ys_X7_isAhead : zYs yX7_isAhead cX7_isAhead 1 (some .boolean) 1 := ⟨by decide, zt_of (lw_tb (i := 1137) rfl) rfl, zt_of (lw_tb (i := 1136) (by decide +kernel)) rfl, zt_of (lw_tb (i := 8) (by decide +kernel)) rfl, by decide, by decide, by decide +kernel⟩
set_option maxRecDepth 100000 in
theorem yv_X7_best : zYv yX7_best cX7_best 7 (some .long) 2 7 := ⟨(RX7, TX7, 23), rfl, rfl, by decide, by decide, zt_of (lw_tb (i := 1134) rfl) rfl, zt_of (lw_tb (i := 1132) (by decide +kernel)) rfl, zt_of (lw_tb (i := 1133) (by decide +kernel)) rfl, zt_of (lw_tb (i := 8) (by decide +kernel)) rfl, by decide, by decide, by decide +kernel⟩
set_option maxRecDepth 100000 in
theorem yv_X7_turn : zYv yX7_turn cX7_turn 3 (some .int) 2 7 := ⟨(RX7, TX7, 23), rfl, rfl, by decide, by decide, zt_of (lw_tb (i := 1169) rfl) rfl, zt_of (lw_tb (i := 1167) (by decide +kernel)) rfl, zt_of (lw_tb (i := 1168) (by decide +kernel)) rfl, zt_of (lw_tb (i := 8) (by decide +kernel)) rfl, by decide, by decide, by decide +kernel⟩
set_option maxRecDepth 100000 in
theorem yv_X7_rest : zYv yX7_rest cX7_rest 5 (some .long) 1 7 := ⟨(RX7, TX7, 23), rfl, rfl, by decide, by decide, zt_of (lw_tb (i := 1173) rfl) rfl, zt_of (lw_tb (i := 1171) (by decide +kernel)) rfl, zt_of (lw_tb (i := 1172) (by decide +kernel)) rfl, zt_of (lw_tb (i := 8) (by decide +kernel)) rfl, by decide, by decide, by decide +kernel⟩
set_option maxRecDepth 100000 in
theorem yv_X7_home : zYv yX7_home cX7_home 7 (some .int) 2 7 := ⟨(RX7, TX7, 23), rfl, rfl, by decide, by decide, zt_of (lw_tb (i := 1177) rfl) rfl, zt_of (lw_tb (i := 1175) (by decide +kernel)) rfl, zt_of (lw_tb (i := 1176) (by decide +kernel)) rfl, zt_of (lw_tb (i := 8) (by decide +kernel)) rfl, by decide, by decide, by decide +kernel⟩
set_option maxRecDepth 100000 in
theorem yv_X7_worthBehind : zYv yX7_worthBehind cX7_worthBehind 9 (some .long) 3 7 := ⟨(RX7, TX7, 23), rfl, rfl, by decide, by decide, zt_of (lw_tb (i := 1186) rfl) rfl, zt_of (lw_tb (i := 1185) (by decide +kernel)) rfl, zt_of (lw_sb (i := 67) (by decide +kernel)) rfl, zt_of (lw_tb (i := 8) (by decide +kernel)) rfl, by decide, by decide, by decide +kernel⟩
set_option maxRecDepth 100000 in
theorem yv_X7_know : zYv yX7_know cX7_know 12 (some .long) 3 7 := ⟨(RX7, TX7, 23), rfl, rfl, by decide, by decide, zt_of (lw_tb (i := 1182) rfl) rfl, zt_of (lw_tb (i := 1180) (by decide +kernel)) rfl, zt_of (lw_tb (i := 1181) (by decide +kernel)) rfl, zt_of (lw_tb (i := 8) (by decide +kernel)) rfl, by decide, by decide, by decide +kernel⟩
set_option maxRecDepth 100000 in
theorem yv_X7_lasts : zYv yX7_lasts cX7_lasts 8 (some .int) 2 7 := ⟨(RX7, TX7, 23), rfl, rfl, by decide, by decide, zt_of (lw_tb (i := 1194) rfl) rfl, zt_of (lw_tb (i := 1193) (by decide +kernel)) rfl, zt_of (lw_sb (i := 68) (by decide +kernel)) rfl, zt_of (lw_tb (i := 8) (by decide +kernel)) rfl, by decide, by decide, by decide +kernel⟩
set_option maxRecDepth 100000 in
theorem yv_X7_life : zYv yX7_life cX7_life 3 (some .int) 2 7 := ⟨(RX7, TX7, 23), rfl, rfl, by decide, by decide, zt_of (lw_tb (i := 1190) rfl) rfl, zt_of (lw_tb (i := 1188) (by decide +kernel)) rfl, zt_of (lw_tb (i := 1189) (by decide +kernel)) rfl, zt_of (lw_tb (i := 8) (by decide +kernel)) rfl, by decide, by decide, by decide +kernel⟩
set_option maxRecDepth 100000 in
theorem yv_X7_lives : zYv yX7_lives cX7_lives 7 (some .int) 3 7 := ⟨(RX7, TX7, 23), rfl, rfl, by decide, by decide, zt_of (lw_tb (i := 1199) rfl) rfl, zt_of (lw_tb (i := 1197) (by decide +kernel)) rfl, zt_of (lw_tb (i := 1198) (by decide +kernel)) rfl, zt_of (lw_tb (i := 8) (by decide +kernel)) rfl, by decide, by decide, by decide +kernel⟩
set_option maxRecDepth 100000 in
theorem ys_X7_isSheet : zYs yX7_isSheet cX7_isSheet 1 (some .boolean) 1 := ⟨by decide, zt_of (lw_tb (i := 1210) rfl) rfl, zt_of (lw_tb (i := 1209) (by decide +kernel)) rfl, zt_of (lw_tb (i := 8) (by decide +kernel)) rfl, by decide, by decide, by decide +kernel⟩
set_option maxRecDepth 100000 in
theorem yv_X7_numberOf : zYv yX7_numberOf cX7_numberOf 3 (some .long) 2 7 := ⟨(RX7, TX7, 23), rfl, rfl, by decide, by decide, zt_of (lw_tb (i := 1214) rfl) rfl, zt_of (lw_tb (i := 1213) (by decide +kernel)) rfl, zt_of (lw_sb (i := 70) (by decide +kernel)) rfl, zt_of (lw_tb (i := 8) (by decide +kernel)) rfl, by decide, by decide, by decide +kernel⟩
set_option maxRecDepth 100000 in
theorem yv_X7_hinders : zYv yX7_hinders cX7_hinders 8 (some .int) 4 7 := ⟨(RX7, TX7, 23), rfl, rfl, by decide, by decide, zt_of (lw_tb (i := 1207) rfl) rfl, zt_of (lw_tb (i := 1206) (by decide +kernel)) rfl, zt_of (lw_sb (i := 69) (by decide +kernel)) rfl, zt_of (lw_tb (i := 8) (by decide +kernel)) rfl, by decide, by decide, by decide +kernel⟩
set_option maxRecDepth 100000 in
theorem yv_X7_isRest : zYv yX7_isRest cX7_isRest 3 (some .boolean) 2 7 := ⟨(RX7, TX7, 23), rfl, rfl, by decide, by decide, zt_of (lw_tb (i := 1218) rfl) rfl, zt_of (lw_tb (i := 1217) (by decide +kernel)) rfl, zt_of (lw_sb (i := 71) (by decide +kernel)) rfl, zt_of (lw_tb (i := 8) (by decide +kernel)) rfl, by decide, by decide, by decide +kernel⟩
set_option maxRecDepth 100000 in
theorem yv_X7_rests : zYv yX7_rests cX7_rests 5 (some .int) 1 7 := ⟨(RX7, TX7, 23), rfl, rfl, by decide, by decide, zt_of (lw_tb (i := 1203) rfl) rfl, zt_of (lw_tb (i := 1201) (by decide +kernel)) rfl, zt_of (lw_tb (i := 1202) (by decide +kernel)) rfl, zt_of (lw_tb (i := 8) (by decide +kernel)) rfl, by decide, by decide, by decide +kernel⟩
set_option maxRecDepth 100000 in
theorem yv_X7_both : zYv yX7_both cX7_both 12 (some .int) 2 7 := ⟨(RX7, TX7, 23), rfl, rfl, by decide, by decide, zt_of (lw_tb (i := 1222) rfl) rfl, zt_of (lw_tb (i := 1220) (by decide +kernel)) rfl, zt_of (lw_tb (i := 1221) (by decide +kernel)) rfl, zt_of (lw_tb (i := 8) (by decide +kernel)) rfl, by decide, by decide, by decide +kernel⟩
set_option maxRecDepth 100000 in
theorem yv_X7_heightOf : zYv yX7_heightOf cX7_heightOf 4 (some .int) 3 7 := ⟨(RX7, TX7, 23), rfl, rfl, by decide, by decide, zt_of (lw_tb (i := 1235) rfl) rfl, zt_of (lw_tb (i := 1234) (by decide +kernel)) rfl, zt_of (lw_sb (i := 73) (by decide +kernel)) rfl, zt_of (lw_tb (i := 8) (by decide +kernel)) rfl, by decide, by decide, by decide +kernel⟩
set_option maxRecDepth 100000 in
theorem yv_X7_findSwarm : zYv yX7_findSwarm cX7_findSwarm 11 none 3 7 := ⟨(RX7, TX7, 23), rfl, rfl, by decide, by decide, zt_of (lw_tb (i := 1231) rfl) rfl, zt_of (lw_tb (i := 1230) (by decide +kernel)) rfl, zt_of (lw_sb (i := 72) (by decide +kernel)) rfl, zt_of (lw_tb (i := 8) (by decide +kernel)) rfl, by decide, by decide, by decide +kernel⟩
set_option maxRecDepth 100000 in
theorem yv_X7_swarm : zYv yX7_swarm cX7_swarm 9 (some .int) 4 7 := ⟨(RX7, TX7, 23), rfl, rfl, by decide, by decide, zt_of (lw_tb (i := 1226) rfl) rfl, zt_of (lw_tb (i := 1224) (by decide +kernel)) rfl, zt_of (lw_tb (i := 1225) (by decide +kernel)) rfl, zt_of (lw_tb (i := 8) (by decide +kernel)) rfl, by decide, by decide, by decide +kernel⟩
set_option maxRecDepth 100000 in
theorem yv_X7_sheet : zYv yX7_sheet cX7_sheet 5 (some .int) 3 7 := ⟨(RX7, TX7, 23), rfl, rfl, by decide, by decide, zt_of (lw_tb (i := 1239) rfl) rfl, zt_of (lw_tb (i := 1237) (by decide +kernel)) rfl, zt_of (lw_tb (i := 1238) (by decide +kernel)) rfl, zt_of (lw_tb (i := 8) (by decide +kernel)) rfl, by decide, by decide, by decide +kernel⟩
set_option maxRecDepth 100000 in
theorem yv_X7_write : zYv yX7_write cX7_write 7 (some .long) 3 7 := ⟨(RX7, TX7, 23), rfl, rfl, by decide, by decide, zt_of (lw_tb (i := 1243) rfl) rfl, zt_of (lw_tb (i := 1241) (by decide +kernel)) rfl, zt_of (lw_tb (i := 1242) (by decide +kernel)) rfl, zt_of (lw_tb (i := 8) (by decide +kernel)) rfl, by decide, by decide, by decide +kernel⟩
set_option maxRecDepth 100000 in
theorem yv_X7_copy : zYv yX7_copy cX7_copy 7 (some .int) 5 7 := ⟨(RX7, TX7, 23), rfl, rfl, by decide, by decide, zt_of (lw_tb (i := 1247) rfl) rfl, zt_of (lw_tb (i := 1245) (by decide +kernel)) rfl, zt_of (lw_tb (i := 1246) (by decide +kernel)) rfl, zt_of (lw_tb (i := 8) (by decide +kernel)) rfl, by decide, by decide, by decide +kernel⟩
set_option maxRecDepth 100000 in
theorem yv_X7_lacks : zYv yX7_lacks cX7_lacks 2 (some .int) 1 7 := ⟨(RX7, TX7, 23), rfl, rfl, by decide, by decide, zt_of (lw_tb (i := 1255) rfl) rfl, zt_of (lw_tb (i := 1254) (by decide +kernel)) rfl, zt_of (lw_sb (i := 74) (by decide +kernel)) rfl, zt_of (lw_tb (i := 8) (by decide +kernel)) rfl, by decide, by decide, by decide +kernel⟩
set_option maxRecDepth 100000 in
theorem yv_X7_turns : zYv yX7_turns cX7_turns 7 (some .int) 1 7 := ⟨(RX7, TX7, 23), rfl, rfl, by decide, by decide, zt_of (lw_tb (i := 1251) rfl) rfl, zt_of (lw_tb (i := 1249) (by decide +kernel)) rfl, zt_of (lw_tb (i := 1250) (by decide +kernel)) rfl, zt_of (lw_tb (i := 8) (by decide +kernel)) rfl, by decide, by decide, by decide +kernel⟩
set_option maxRecDepth 100000 in
theorem yv_X7_read : zYv yX7_read cX7_read 4 (some .int) 1 7 := ⟨(RX7, TX7, 23), rfl, rfl, by decide, by decide, zt_of (lw_tb (i := 1259) rfl) rfl, zt_of (lw_tb (i := 1257) (by decide +kernel)) rfl, zt_of (lw_tb (i := 1258) (by decide +kernel)) rfl, zt_of (lw_tb (i := 8) (by decide +kernel)) rfl, by decide, by decide, by decide +kernel⟩
set_option maxRecDepth 100000 in
theorem yv_X7_image : zYv yX7_image cX7_image 2 (some .int) 0 7 := ⟨(RX7, TX7, 23), rfl, rfl, by decide, by decide, zt_of (lw_tb (i := 1263) rfl) rfl, zt_of (lw_tb (i := 1261) (by decide +kernel)) rfl, zt_of (lw_tb (i := 1262) (by decide +kernel)) rfl, zt_of (lw_tb (i := 8) (by decide +kernel)) rfl, by decide, by decide, by decide +kernel⟩
set_option maxRecDepth 100000 in
theorem yv_X7_undo : zYv yX7_undo cX7_undo 2 (some .int) 0 7 := ⟨(RX7, TX7, 23), rfl, rfl, by decide, by decide, zt_of (lw_tb (i := 1267) rfl) rfl, zt_of (lw_tb (i := 1265) (by decide +kernel)) rfl, zt_of (lw_tb (i := 1266) (by decide +kernel)) rfl, zt_of (lw_tb (i := 8) (by decide +kernel)) rfl, by decide, by decide, by decide +kernel⟩
set_option maxRecDepth 100000 in
theorem yv_X7_tear : zYv yX7_tear cX7_tear 2 (some .int) 0 7 := ⟨(RX7, TX7, 23), rfl, rfl, by decide, by decide, zt_of (lw_tb (i := 1271) rfl) rfl, zt_of (lw_tb (i := 1269) (by decide +kernel)) rfl, zt_of (lw_tb (i := 1270) (by decide +kernel)) rfl, zt_of (lw_tb (i := 8) (by decide +kernel)) rfl, by decide, by decide, by decide +kernel⟩
set_option maxRecDepth 100000 in
theorem yv_X7_count : zYv yX7_count cX7_count 4 (some .int) 1 7 := ⟨(RX7, TX7, 23), rfl, rfl, by decide, by decide, zt_of (lw_tb (i := 1275) rfl) rfl, zt_of (lw_tb (i := 1273) (by decide +kernel)) rfl, zt_of (lw_tb (i := 1274) (by decide +kernel)) rfl, zt_of (lw_tb (i := 8) (by decide +kernel)) rfl, by decide, by decide, by decide +kernel⟩
set_option maxRecDepth 100000 in
theorem yv_X7_status : zYv yX7_status cX7_status 4 (some .int) 1 7 := ⟨(RX7, TX7, 23), rfl, rfl, by decide, by decide, zt_of (lw_tb (i := 1279) rfl) rfl, zt_of (lw_tb (i := 1277) (by decide +kernel)) rfl, zt_of (lw_tb (i := 1278) (by decide +kernel)) rfl, zt_of (lw_tb (i := 8) (by decide +kernel)) rfl, by decide, by decide, by decide +kernel⟩
set_option maxRecDepth 100000 in
theorem ys_J9_abs_0f7a4 : zYs yJ9_abs_0f7a4 cJ9_abs_0f7a4 1 (some .int) 1 := ⟨by decide, zt_of (lw_tb (i := 328) rfl) rfl, zt_of (lw_tb (i := 327) (by decide +kernel)) rfl, zt_of (lw_tb (i := 9) (by decide +kernel)) rfl, by decide, by decide, by decide +kernel⟩
set_option maxRecDepth 100000 in
theorem ys_J9_max_7cf53 : zYs yJ9_max_7cf53 cJ9_max_7cf53 2 (some .int) 2 := ⟨by decide, zt_of (lw_tb (i := 352) rfl) rfl, zt_of (lw_tb (i := 351) (by decide +kernel)) rfl, zt_of (lw_tb (i := 9) (by decide +kernel)) rfl, by decide, by decide, by decide +kernel⟩
set_option maxRecDepth 100000 in
theorem ys_J9_max_f86c9 : zYs yJ9_max_f86c9 cJ9_max_f86c9 4 (some .long) 2 := ⟨by decide, zt_of (lw_tb (i := 582) rfl) rfl, zt_of (lw_tb (i := 581) (by decide +kernel)) rfl, zt_of (lw_tb (i := 9) (by decide +kernel)) rfl, by decide, by decide, by decide +kernel⟩
set_option maxRecDepth 100000 in
theorem ys_J9_min_7cf53 : zYs yJ9_min_7cf53 cJ9_min_7cf53 2 (some .int) 2 := ⟨by decide, zt_of (lw_tb (i := 364) rfl) rfl, zt_of (lw_tb (i := 363) (by decide +kernel)) rfl, zt_of (lw_tb (i := 9) (by decide +kernel)) rfl, by decide, by decide, by decide +kernel⟩
end
