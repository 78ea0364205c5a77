section
-- ===== PART A: goes FIRST, ahead of the names: the tables' words, and 'selects' of the private methods out of them =====
/-- a private method of a class that the tables say can be made, by its rows of tables_1 -/
def lw_okq (q : MethodName × Nat) : Prop := (q.1.cls ≠ "java/lang/invoke/MethodHandle" ∧ q.1.cls ≠ "java/lang/invoke/VarHandle") ∧ Cond.instantiable q.1.cls q.2 ∈ tables_1 ∧ Cond.privateMethod q.1 ∈ tables_1 ∧ Cond.instanceMethod q.1 ∈ tables_1
theorem lw_p0 : lw_okq (⟨"PlaceTimePlans$Days", "countWorkingDays", "()V"⟩, 4) := ⟨⟨by decide +kernel, by decide +kernel⟩, List.mem_of_getElem? (i := 27) (by decide +kernel), List.mem_of_getElem? (i := 33) (by decide +kernel), List.mem_of_getElem? (i := 34) (by decide +kernel)⟩
theorem lw_p1 : lw_okq (⟨"PlaceTimePlans", "forgetPlan", "()V"⟩, 11) := ⟨⟨by decide +kernel, by decide +kernel⟩, List.mem_of_getElem? (i := 13) (by decide +kernel), List.mem_of_getElem? (i := 348) (by decide +kernel), List.mem_of_getElem? (i := 349) (by decide +kernel)⟩
theorem lw_p2 : lw_okq (⟨"PlaceTimePlans", "isWork", "(I)Z"⟩, 11) := ⟨⟨by decide +kernel, by decide +kernel⟩, List.mem_of_getElem? (i := 13) (by decide +kernel), List.mem_of_getElem? (i := 375) (by decide +kernel), List.mem_of_getElem? (i := 376) (by decide +kernel)⟩
theorem lw_p3 : lw_okq (⟨"PlaceTimePlans$Search", "tryStarts", "(I)V"⟩, 15) := ⟨⟨by decide +kernel, by decide +kernel⟩, List.mem_of_getElem? (i := 216) (by decide +kernel), List.mem_of_getElem? (i := 429) (by decide +kernel), List.mem_of_getElem? (i := 430) (by decide +kernel)⟩
theorem lw_p4 : lw_okq (⟨"PlaceTimePlans$Rules", "openAlone", "(LPlaceTimePlans$Window;II)V"⟩, 3) := ⟨⟨by decide +kernel, by decide +kernel⟩, List.mem_of_getElem? (i := 166) (by decide +kernel), List.mem_of_getElem? (i := 437) (by decide +kernel), List.mem_of_getElem? (i := 438) (by decide +kernel)⟩
theorem lw_p5 : lw_okq (⟨"PlaceTimePlans$Rules", "firstStart", "(LPlaceTimePlans$Work;III)I"⟩, 3) := ⟨⟨by decide +kernel, by decide +kernel⟩, List.mem_of_getElem? (i := 166) (by decide +kernel), List.mem_of_getElem? (i := 459) (by decide +kernel), List.mem_of_getElem? (i := 460) (by decide +kernel)⟩
theorem lw_p6 : lw_okq (⟨"PlaceTimePlans$Rules", "keepGaps", "(LPlaceTimePlans$Window;LPlaceTimePlans$Placing;III)V"⟩, 3) := ⟨⟨by decide +kernel, by decide +kernel⟩, List.mem_of_getElem? (i := 166) (by decide +kernel), List.mem_of_getElem? (i := 470) (by decide +kernel), List.mem_of_getElem? (i := 471) (by decide +kernel)⟩
theorem lw_p7 : lw_okq (⟨"PlaceTimePlans$Rules", "lastStart", "(LPlaceTimePlans$Work;III)I"⟩, 3) := ⟨⟨by decide +kernel, by decide +kernel⟩, List.mem_of_getElem? (i := 166) (by decide +kernel), List.mem_of_getElem? (i := 499) (by decide +kernel), List.mem_of_getElem? (i := 500) (by decide +kernel)⟩
theorem lw_p8 : lw_okq (⟨"PlaceTimePlans$Search", "tryOne", "(III)V"⟩, 15) := ⟨⟨by decide +kernel, by decide +kernel⟩, List.mem_of_getElem? (i := 216) (by decide +kernel), List.mem_of_getElem? (i := 508) (by decide +kernel), List.mem_of_getElem? (i := 509) (by decide +kernel)⟩
theorem lw_p9 : lw_okq (⟨"PlaceTimePlans$Search", "isMove", "(III)Z"⟩, 15) := ⟨⟨by decide +kernel, by decide +kernel⟩, List.mem_of_getElem? (i := 216) (by decide +kernel), List.mem_of_getElem? (i := 517) (by decide +kernel), List.mem_of_getElem? (i := 518) (by decide +kernel)⟩
theorem lw_p10 : lw_okq (⟨"PlaceTimePlans$Search", "isBetter", "(II)Z"⟩, 15) := ⟨⟨by decide +kernel, by decide +kernel⟩, List.mem_of_getElem? (i := 216) (by decide +kernel), List.mem_of_getElem? (i := 526) (by decide +kernel), List.mem_of_getElem? (i := 527) (by decide +kernel)⟩
theorem lw_p11 : lw_okq (⟨"PlaceTimePlans$Search", "keepsRules", "(III)Z"⟩, 15) := ⟨⟨by decide +kernel, by decide +kernel⟩, List.mem_of_getElem? (i := 216) (by decide +kernel), List.mem_of_getElem? (i := 530) (by decide +kernel), List.mem_of_getElem? (i := 531) (by decide +kernel)⟩
theorem lw_p12 : lw_okq (⟨"PlaceTimePlans$Rules", "isCrowded", "(LPlaceTimePlans$Placing;III)Z"⟩, 3) := ⟨⟨by decide +kernel, by decide +kernel⟩, List.mem_of_getElem? (i := 166) (by decide +kernel), List.mem_of_getElem? (i := 544) (by decide +kernel), List.mem_of_getElem? (i := 545) (by decide +kernel)⟩
theorem lw_p13 : lw_okq (⟨"PlaceTimePlans$Search", "keepAsBest", "(I)V"⟩, 15) := ⟨⟨by decide +kernel, by decide +kernel⟩, List.mem_of_getElem? (i := 216) (by decide +kernel), List.mem_of_getElem? (i := 553) (by decide +kernel), List.mem_of_getElem? (i := 554) (by decide +kernel)⟩
theorem lw_p14 : lw_okq (⟨"PlaceTimePlans", "takeOutcome", "(Z)Z"⟩, 11) := ⟨⟨by decide +kernel, by decide +kernel⟩, List.mem_of_getElem? (i := 13) (by decide +kernel), List.mem_of_getElem? (i := 557) (by decide +kernel), List.mem_of_getElem? (i := 558) (by decide +kernel)⟩
theorem lw_p15 : lw_okq (⟨"PlaceTimePlans", "isPlanned", "(I)Z"⟩, 11) := ⟨⟨by decide +kernel, by decide +kernel⟩, List.mem_of_getElem? (i := 13) (by decide +kernel), List.mem_of_getElem? (i := 575) (by decide +kernel), List.mem_of_getElem? (i := 576) (by decide +kernel)⟩
def lw_privs_1 : List (MethodName × Nat) := [(⟨"PlaceTimePlans$Days", "countWorkingDays", "()V"⟩, 4), (⟨"PlaceTimePlans", "forgetPlan", "()V"⟩, 11), (⟨"PlaceTimePlans", "isWork", "(I)Z"⟩, 11), (⟨"PlaceTimePlans$Search", "tryStarts", "(I)V"⟩, 15), (⟨"PlaceTimePlans$Rules", "openAlone", "(LPlaceTimePlans$Window;II)V"⟩, 3), (⟨"PlaceTimePlans$Rules", "firstStart", "(LPlaceTimePlans$Work;III)I"⟩, 3), (⟨"PlaceTimePlans$Rules", "keepGaps", "(LPlaceTimePlans$Window;LPlaceTimePlans$Placing;III)V"⟩, 3), (⟨"PlaceTimePlans$Rules", "lastStart", "(LPlaceTimePlans$Work;III)I"⟩, 3), (⟨"PlaceTimePlans$Search", "tryOne", "(III)V"⟩, 15), (⟨"PlaceTimePlans$Search", "isMove", "(III)Z"⟩, 15), (⟨"PlaceTimePlans$Search", "isBetter", "(II)Z"⟩, 15), (⟨"PlaceTimePlans$Search", "keepsRules", "(III)Z"⟩, 15), (⟨"PlaceTimePlans$Rules", "isCrowded", "(LPlaceTimePlans$Placing;III)Z"⟩, 3), (⟨"PlaceTimePlans$Search", "keepAsBest", "(I)V"⟩, 15), (⟨"PlaceTimePlans", "takeOutcome", "(Z)Z"⟩, 11), (⟨"PlaceTimePlans", "isPlanned", "(I)Z"⟩, 11)]
theorem lw_r1 : ∀ q ∈ lw_privs_1, lw_okq q := List.forall_mem_cons.mpr ⟨lw_p0, List.forall_mem_cons.mpr ⟨lw_p1, List.forall_mem_cons.mpr ⟨lw_p2, List.forall_mem_cons.mpr ⟨lw_p3, List.forall_mem_cons.mpr ⟨lw_p4, List.forall_mem_cons.mpr ⟨lw_p5, List.forall_mem_cons.mpr ⟨lw_p6, List.forall_mem_cons.mpr ⟨lw_p7, List.forall_mem_cons.mpr ⟨lw_p8, List.forall_mem_cons.mpr ⟨lw_p9, List.forall_mem_cons.mpr ⟨lw_p10, List.forall_mem_cons.mpr ⟨lw_p11, List.forall_mem_cons.mpr ⟨lw_p12, List.forall_mem_cons.mpr ⟨lw_p13, List.forall_mem_cons.mpr ⟨lw_p14, List.forall_mem_cons.mpr ⟨lw_p15, fun _ h => absurd h List.not_mem_nil⟩⟩⟩⟩⟩⟩⟩⟩⟩⟩⟩⟩⟩⟩⟩⟩
theorem lw_p16 : lw_okq (⟨"PlaceTimePlans", "canStartLater", "(II)Z"⟩, 11) := ⟨⟨by decide +kernel, by decide +kernel⟩, List.mem_of_getElem? (i := 13) (by decide +kernel), List.mem_of_getElem? (i := 653) (by decide +kernel), List.mem_of_getElem? (i := 654) (by decide +kernel)⟩
theorem lw_p17 : lw_okq (⟨"PlaceTimePlans$Weather", "drawWet", "(I)Z"⟩, 4) := ⟨⟨by decide +kernel, by decide +kernel⟩, List.mem_of_getElem? (i := 281) (by decide +kernel), List.mem_of_getElem? (i := 672) (by decide +kernel), List.mem_of_getElem? (i := 673) (by decide +kernel)⟩
theorem lw_p18 : lw_okq (⟨"PlaceTimePlans$Weather", "goOn", "(I)Z"⟩, 4) := ⟨⟨by decide +kernel, by decide +kernel⟩, List.mem_of_getElem? (i := 281) (by decide +kernel), List.mem_of_getElem? (i := 680) (by decide +kernel), List.mem_of_getElem? (i := 681) (by decide +kernel)⟩
theorem lw_p19 : lw_okq (⟨"PlaceTimePlansModel", "changed", "()V"⟩, 38) := ⟨⟨by decide +kernel, by decide +kernel⟩, List.mem_of_getElem? (i := 689) (by decide +kernel), List.mem_of_getElem? (i := 817) (by decide +kernel), List.mem_of_getElem? (i := 818) (by decide +kernel)⟩
theorem lw_p20 : lw_okq (⟨"PlaceTimePlansModel", "isWork", "(I)Z"⟩, 38) := ⟨⟨by decide +kernel, by decide +kernel⟩, List.mem_of_getElem? (i := 689) (by decide +kernel), List.mem_of_getElem? (i := 829) (by decide +kernel), List.mem_of_getElem? (i := 830) (by decide +kernel)⟩
theorem lw_p21 : lw_okq (⟨"PlaceTimePlansModel", "search", "(IZ)V"⟩, 38) := ⟨⟨by decide +kernel, by decide +kernel⟩, List.mem_of_getElem? (i := 689) (by decide +kernel), List.mem_of_getElem? (i := 857) (by decide +kernel), List.mem_of_getElem? (i := 858) (by decide +kernel)⟩
theorem lw_p22 : lw_okq (⟨"PlaceTimePlansModel", "triesOf", "(I)I"⟩, 38) := ⟨⟨by decide +kernel, by decide +kernel⟩, List.mem_of_getElem? (i := 689) (by decide +kernel), List.mem_of_getElem? (i := 861) (by decide +kernel), List.mem_of_getElem? (i := 862) (by decide +kernel)⟩
theorem lw_p23 : lw_okq (⟨"PlaceTimePlansModel", "goesOn", "(IIZ)Z"⟩, 38) := ⟨⟨by decide +kernel, by decide +kernel⟩, List.mem_of_getElem? (i := 689) (by decide +kernel), List.mem_of_getElem? (i := 865) (by decide +kernel), List.mem_of_getElem? (i := 866) (by decide +kernel)⟩
theorem lw_p24 : lw_okq (⟨"PlaceTimePlansModel", "isRest", "(I)Z"⟩, 38) := ⟨⟨by decide +kernel, by decide +kernel⟩, List.mem_of_getElem? (i := 689) (by decide +kernel), List.mem_of_getElem? (i := 869) (by decide +kernel), List.mem_of_getElem? (i := 870) (by decide +kernel)⟩
theorem lw_p25 : lw_okq (⟨"PlaceTimePlansModel", "lay", "(IIII)V"⟩, 38) := ⟨⟨by decide +kernel, by decide +kernel⟩, List.mem_of_getElem? (i := 689) (by decide +kernel), List.mem_of_getElem? (i := 873) (by decide +kernel), List.mem_of_getElem? (i := 874) (by decide +kernel)⟩
theorem lw_p26 : lw_okq (⟨"PlaceTimePlansModel", "nextDay", "(I)I"⟩, 38) := ⟨⟨by decide +kernel, by decide +kernel⟩, List.mem_of_getElem? (i := 689) (by decide +kernel), List.mem_of_getElem? (i := 877) (by decide +kernel), List.mem_of_getElem? (i := 878) (by decide +kernel)⟩
theorem lw_p27 : lw_okq (⟨"PlaceTimePlansModel", "keepsAll", "(III)Z"⟩, 38) := ⟨⟨by decide +kernel, by decide +kernel⟩, List.mem_of_getElem? (i := 689) (by decide +kernel), List.mem_of_getElem? (i := 881) (by decide +kernel), List.mem_of_getElem? (i := 882) (by decide +kernel)⟩
theorem lw_p28 : lw_okq (⟨"PlaceTimePlansModel", "keepsOwn", "(II)Z"⟩, 38) := ⟨⟨by decide +kernel, by decide +kernel⟩, List.mem_of_getElem? (i := 689) (by decide +kernel), List.mem_of_getElem? (i := 885) (by decide +kernel), List.mem_of_getElem? (i := 886) (by decide +kernel)⟩
theorem lw_p29 : lw_okq (⟨"PlaceTimePlansModel", "goesWith", "(IIII)Z"⟩, 38) := ⟨⟨by decide +kernel, by decide +kernel⟩, List.mem_of_getElem? (i := 689) (by decide +kernel), List.mem_of_getElem? (i := 889) (by decide +kernel), List.mem_of_getElem? (i := 890) (by decide +kernel)⟩
theorem lw_p30 : lw_okq (⟨"PlaceTimePlansModel", "comesAfter", "(IIII)Z"⟩, 38) := ⟨⟨by decide +kernel, by decide +kernel⟩, List.mem_of_getElem? (i := 689) (by decide +kernel), List.mem_of_getElem? (i := 893) (by decide +kernel), List.mem_of_getElem? (i := 894) (by decide +kernel)⟩
theorem lw_p31 : lw_okq (⟨"PlaceTimePlansModel", "isUnder", "(II)Z"⟩, 38) := ⟨⟨by decide +kernel, by decide +kernel⟩, List.mem_of_getElem? (i := 689) (by decide +kernel), List.mem_of_getElem? (i := 897) (by decide +kernel), List.mem_of_getElem? (i := 898) (by decide +kernel)⟩
def lw_privs_2 : List (MethodName × Nat) := [(⟨"PlaceTimePlans", "canStartLater", "(II)Z"⟩, 11), (⟨"PlaceTimePlans$Weather", "drawWet", "(I)Z"⟩, 4), (⟨"PlaceTimePlans$Weather", "goOn", "(I)Z"⟩, 4), (⟨"PlaceTimePlansModel", "changed", "()V"⟩, 38), (⟨"PlaceTimePlansModel", "isWork", "(I)Z"⟩, 38), (⟨"PlaceTimePlansModel", "search", "(IZ)V"⟩, 38), (⟨"PlaceTimePlansModel", "triesOf", "(I)I"⟩, 38), (⟨"PlaceTimePlansModel", "goesOn", "(IIZ)Z"⟩, 38), (⟨"PlaceTimePlansModel", "isRest", "(I)Z"⟩, 38), (⟨"PlaceTimePlansModel", "lay", "(IIII)V"⟩, 38), (⟨"PlaceTimePlansModel", "nextDay", "(I)I"⟩, 38), (⟨"PlaceTimePlansModel", "keepsAll", "(III)Z"⟩, 38), (⟨"PlaceTimePlansModel", "keepsOwn", "(II)Z"⟩, 38), (⟨"PlaceTimePlansModel", "goesWith", "(IIII)Z"⟩, 38), (⟨"PlaceTimePlansModel", "comesAfter", "(IIII)Z"⟩, 38), (⟨"PlaceTimePlansModel", "isUnder", "(II)Z"⟩, 38)]
theorem lw_r2 : ∀ q ∈ lw_privs_2, lw_okq q := List.forall_mem_cons.mpr ⟨lw_p16, List.forall_mem_cons.mpr ⟨lw_p17, List.forall_mem_cons.mpr ⟨lw_p18, List.forall_mem_cons.mpr ⟨lw_p19, List.forall_mem_cons.mpr ⟨lw_p20, List.forall_mem_cons.mpr ⟨lw_p21, List.forall_mem_cons.mpr ⟨lw_p22, List.forall_mem_cons.mpr ⟨lw_p23, List.forall_mem_cons.mpr ⟨lw_p24, List.forall_mem_cons.mpr ⟨lw_p25, List.forall_mem_cons.mpr ⟨lw_p26, List.forall_mem_cons.mpr ⟨lw_p27, List.forall_mem_cons.mpr ⟨lw_p28, List.forall_mem_cons.mpr ⟨lw_p29, List.forall_mem_cons.mpr ⟨lw_p30, List.forall_mem_cons.mpr ⟨lw_p31, fun _ h => absurd h List.not_mem_nil⟩⟩⟩⟩⟩⟩⟩⟩⟩⟩⟩⟩⟩⟩⟩⟩
theorem lw_p32 : lw_okq (⟨"PlaceTimePlansModel", "isBetter", "(IZ)Z"⟩, 38) := ⟨⟨by decide +kernel, by decide +kernel⟩, List.mem_of_getElem? (i := 689) (by decide +kernel), List.mem_of_getElem? (i := 901) (by decide +kernel), List.mem_of_getElem? (i := 902) (by decide +kernel)⟩
theorem lw_p33 : lw_okq (⟨"PlaceTimePlansModel", "greatestEnd", "(I)I"⟩, 38) := ⟨⟨by decide +kernel, by decide +kernel⟩, List.mem_of_getElem? (i := 689) (by decide +kernel), List.mem_of_getElem? (i := 905) (by decide +kernel), List.mem_of_getElem? (i := 906) (by decide +kernel)⟩
theorem lw_p34 : lw_okq (⟨"PlaceTimePlansModel", "movedSoFar", "(I)I"⟩, 38) := ⟨⟨by decide +kernel, by decide +kernel⟩, List.mem_of_getElem? (i := 689) (by decide +kernel), List.mem_of_getElem? (i := 909) (by decide +kernel), List.mem_of_getElem? (i := 910) (by decide +kernel)⟩
theorem lw_p35 : lw_okq (⟨"PlaceTimePlansModel", "take", "(Z)V"⟩, 38) := ⟨⟨by decide +kernel, by decide +kernel⟩, List.mem_of_getElem? (i := 689) (by decide +kernel), List.mem_of_getElem? (i := 913) (by decide +kernel), List.mem_of_getElem? (i := 914) (by decide +kernel)⟩
theorem lw_p36 : lw_okq (⟨"PlaceTimePlansModel", "layPlan", "()V"⟩, 38) := ⟨⟨by decide +kernel, by decide +kernel⟩, List.mem_of_getElem? (i := 689) (by decide +kernel), List.mem_of_getElem? (i := 933) (by decide +kernel), List.mem_of_getElem? (i := 934) (by decide +kernel)⟩
theorem lw_p37 : lw_okq (⟨"PlaceTimePlansModel", "daysOf", "(I)I"⟩, 38) := ⟨⟨by decide +kernel, by decide +kernel⟩, List.mem_of_getElem? (i := 689) (by decide +kernel), List.mem_of_getElem? (i := 960) (by decide +kernel), List.mem_of_getElem? (i := 961) (by decide +kernel)⟩
theorem lw_p38 : lw_okq (⟨"PlaceTimePlansModel", "isLone", "(I)Z"⟩, 38) := ⟨⟨by decide +kernel, by decide +kernel⟩, List.mem_of_getElem? (i := 689) (by decide +kernel), List.mem_of_getElem? (i := 968) (by decide +kernel), List.mem_of_getElem? (i := 969) (by decide +kernel)⟩
theorem lw_p39 : lw_okq (⟨"PlaceTimePlansModel", "wetEnd", "(I)I"⟩, 38) := ⟨⟨by decide +kernel, by decide +kernel⟩, List.mem_of_getElem? (i := 689) (by decide +kernel), List.mem_of_getElem? (i := 995) (by decide +kernel), List.mem_of_getElem? (i := 996) (by decide +kernel)⟩
def lw_privs_3 : List (MethodName × Nat) := [(⟨"PlaceTimePlansModel", "isBetter", "(IZ)Z"⟩, 38), (⟨"PlaceTimePlansModel", "greatestEnd", "(I)I"⟩, 38), (⟨"PlaceTimePlansModel", "movedSoFar", "(I)I"⟩, 38), (⟨"PlaceTimePlansModel", "take", "(Z)V"⟩, 38), (⟨"PlaceTimePlansModel", "layPlan", "()V"⟩, 38), (⟨"PlaceTimePlansModel", "daysOf", "(I)I"⟩, 38), (⟨"PlaceTimePlansModel", "isLone", "(I)Z"⟩, 38), (⟨"PlaceTimePlansModel", "wetEnd", "(I)I"⟩, 38)]
theorem lw_r3 : ∀ q ∈ lw_privs_3, lw_okq q := List.forall_mem_cons.mpr ⟨lw_p32, List.forall_mem_cons.mpr ⟨lw_p33, List.forall_mem_cons.mpr ⟨lw_p34, List.forall_mem_cons.mpr ⟨lw_p35, List.forall_mem_cons.mpr ⟨lw_p36, List.forall_mem_cons.mpr ⟨lw_p37, List.forall_mem_cons.mpr ⟨lw_p38, List.forall_mem_cons.mpr ⟨lw_p39, fun _ h => absurd h List.not_mem_nil⟩⟩⟩⟩⟩⟩⟩⟩
def lw_privs : List (MethodName × Nat) := lw_privs_1 ++ (lw_privs_2 ++ (lw_privs_3))
def lw_tbl : List Cond := k2_sels lw_privs ++ tables_1
theorem lw_privs_ok : ∀ q ∈ lw_privs, lw_okq q := by
  show ∀ q ∈ lw_privs_1 ++ (lw_privs_2 ++ (lw_privs_3)), lw_okq q
  exact List.forall_mem_append.mpr ⟨lw_r1, List.forall_mem_append.mpr ⟨lw_r2, lw_r3⟩⟩
end
section
def sx_fin : List Cond → List Cond := fun l => l.filter goodWord
def sx_isN : Cond → Bool
  | .fieldLinkNest .. => true
  | .methodLinkNest .. => true
  | .arrayOver (.object _) => true
  | _ => false
def sx_T : List Cond := lw_tbl.filter goodWord
def sx_N : List Cond := lw_tbl.filter sx_isN
def ff_D : u_T := fun k => match k with
  | 0 => ("PlaceTimePlans$Days", "resting", "[Z", true)
  | 1 => ("PlaceTimePlans$Days", "workingBefore", "[I", true)
  | 2 => ("PlaceTimePlans$Days", "workingDays", "[I", true)
  | _ => ("PlaceTimePlans$Days", "rests", "I", false)
def ft_D : Nat → FieldType := fun k => match k with
  | 0 => .array (.boolean)
  | 1 => .array (.int)
  | 2 => .array (.int)
  | _ => .int
theorem fn_D : ∀ a, a < 4 → ∀ b, b < 4 → a ≠ b → (ff_D a).2.1 ≠ (ff_D b).2.1 := by decide +kernel
theorem ft_D_ok : ∀ k, k < 4 → parseFieldDescriptor (ff_D k).2.2.1 = some (ft_D k) := by decide +kernel
theorem fi_D : ∀ w ∈ u_ws "PlaceTimePlans$Days" ff_D 4, w ∈ tables_1 := by decide +kernel
theorem fg_D : ∀ w ∈ u_ws "PlaceTimePlans$Days" ff_D 4, goodWord w = true := by decide +kernel
def ff_L : u_T := fun k => match k with
  | 0 => ("PlaceTimePlans$Line", "days", "LPlaceTimePlans$Days;", true)
  | 1 => ("PlaceTimePlans$Line", "crewKinds", "[I", true)
  | 2 => ("PlaceTimePlans$Line", "works", "[LPlaceTimePlans$Work;", true)
  | 3 => ("PlaceTimePlans$Line", "gaps", "[I", true)
  | 4 => ("PlaceTimePlans$Line", "mosts", "[I", true)
  | 5 => ("PlaceTimePlans$Line", "barWorks", "[I", true)
  | 6 => ("PlaceTimePlans$Line", "barPlaces", "[I", true)
  | 7 => ("PlaceTimePlans$Line", "barDays", "[I", true)
  | 8 => ("PlaceTimePlans$Line", "crewCount", "I", false)
  | 9 => ("PlaceTimePlans$Line", "workCount", "I", false)
  | _ => ("PlaceTimePlans$Line", "barCount", "I", false)
def ft_L : Nat → FieldType := fun k => match k with
  | 0 => .object "PlaceTimePlans$Days"
  | 1 => .array (.int)
  | 2 => .array (.object "PlaceTimePlans$Work")
  | 3 => .array (.int)
  | 4 => .array (.int)
  | 5 => .array (.int)
  | 6 => .array (.int)
  | 7 => .array (.int)
  | 8 => .int
  | 9 => .int
  | _ => .int
theorem fn_L : ∀ a, a < 11 → ∀ b, b < 11 → a ≠ b → (ff_L a).2.1 ≠ (ff_L b).2.1 := by decide +kernel
theorem ft_L_ok : ∀ k, k < 11 → parseFieldDescriptor (ff_L k).2.2.1 = some (ft_L k) := by decide +kernel
theorem fi_L : ∀ w ∈ u_ws "PlaceTimePlans$Line" ff_L 11, w ∈ tables_1 := by decide +kernel
theorem fg_L : ∀ w ∈ u_ws "PlaceTimePlans$Line" ff_L 11, goodWord w = true := by decide +kernel
def ff_P : u_T := fun k => match k with
  | 0 => ("PlaceTimePlans$Placing", "starts", "[I", true)
  | _ => ("PlaceTimePlans$Placing", "ways", "[I", true)
def ft_P : Nat → FieldType := fun k => match k with
  | 0 => .array (.int)
  | _ => .array (.int)
theorem fn_P : ∀ a, a < 2 → ∀ b, b < 2 → a ≠ b → (ff_P a).2.1 ≠ (ff_P b).2.1 := by decide +kernel
theorem ft_P_ok : ∀ k, k < 2 → parseFieldDescriptor (ff_P k).2.2.1 = some (ft_P k) := by decide +kernel
theorem fi_P : ∀ w ∈ u_ws "PlaceTimePlans$Placing" ff_P 2, w ∈ tables_1 := by decide +kernel
theorem fg_P : ∀ w ∈ u_ws "PlaceTimePlans$Placing" ff_P 2, goodWord w = true := by decide +kernel
def ff_R : u_T := fun k => match k with
  | 0 => ("PlaceTimePlans$Rules", "line", "LPlaceTimePlans$Line;", true)
  | 1 => ("PlaceTimePlans$Rules", "days", "LPlaceTimePlans$Days;", true)
  | _ => ("PlaceTimePlans$Rules", "alone", "LPlaceTimePlans$Window;", true)
def ft_R : Nat → FieldType := fun k => match k with
  | 0 => .object "PlaceTimePlans$Line"
  | 1 => .object "PlaceTimePlans$Days"
  | _ => .object "PlaceTimePlans$Window"
theorem fn_R : ∀ a, a < 3 → ∀ b, b < 3 → a ≠ b → (ff_R a).2.1 ≠ (ff_R b).2.1 := by decide +kernel
theorem ft_R_ok : ∀ k, k < 3 → parseFieldDescriptor (ff_R k).2.2.1 = some (ft_R k) := by decide +kernel
theorem fi_R : ∀ w ∈ u_ws "PlaceTimePlans$Rules" ff_R 3, w ∈ tables_1 := by decide +kernel
theorem fg_R : ∀ w ∈ u_ws "PlaceTimePlans$Rules" ff_R 3, goodWord w = true := by decide +kernel
def ff_S : u_T := fun k => match k with
  | 0 => ("PlaceTimePlans$Search", "line", "LPlaceTimePlans$Line;", true)
  | 1 => ("PlaceTimePlans$Search", "rules", "LPlaceTimePlans$Rules;", true)
  | 2 => ("PlaceTimePlans$Search", "home", "LPlaceTimePlans$Placing;", true)
  | 3 => ("PlaceTimePlans$Search", "now", "LPlaceTimePlans$Placing;", true)
  | 4 => ("PlaceTimePlans$Search", "best", "LPlaceTimePlans$Placing;", true)
  | 5 => ("PlaceTimePlans$Search", "windows", "[LPlaceTimePlans$Window;", true)
  | 6 => ("PlaceTimePlans$Search", "ends", "[I", true)
  | 7 => ("PlaceTimePlans$Search", "moves", "[I", true)
  | 8 => ("PlaceTimePlans$Search", "again", "Z", false)
  | 9 => ("PlaceTimePlans$Search", "granted", "I", false)
  | 10 => ("PlaceTimePlans$Search", "done", "I", false)
  | 11 => ("PlaceTimePlans$Search", "cutOff", "Z", false)
  | 12 => ("PlaceTimePlans$Search", "found", "Z", false)
  | 13 => ("PlaceTimePlans$Search", "bestEnd", "I", false)
  | _ => ("PlaceTimePlans$Search", "bestMoves", "I", false)
def ft_S : Nat → FieldType := fun k => match k with
  | 0 => .object "PlaceTimePlans$Line"
  | 1 => .object "PlaceTimePlans$Rules"
  | 2 => .object "PlaceTimePlans$Placing"
  | 3 => .object "PlaceTimePlans$Placing"
  | 4 => .object "PlaceTimePlans$Placing"
  | 5 => .array (.object "PlaceTimePlans$Window")
  | 6 => .array (.int)
  | 7 => .array (.int)
  | 8 => .boolean
  | 9 => .int
  | 10 => .int
  | 11 => .boolean
  | 12 => .boolean
  | 13 => .int
  | _ => .int
theorem fn_S : ∀ a, a < 15 → ∀ b, b < 15 → a ≠ b → (ff_S a).2.1 ≠ (ff_S b).2.1 := by decide +kernel
theorem ft_S_ok : ∀ k, k < 15 → parseFieldDescriptor (ff_S k).2.2.1 = some (ft_S k) := by decide +kernel
theorem fi_S : ∀ w ∈ u_ws "PlaceTimePlans$Search" ff_S 15, w ∈ tables_1 := by decide +kernel
theorem fg_S : ∀ w ∈ u_ws "PlaceTimePlans$Search" ff_S 15, goodWord w = true := by decide +kernel
def ff_H : u_T := fun k => match k with
  | 0 => ("PlaceTimePlans$Weather", "line", "LPlaceTimePlans$Line;", true)
  | 1 => ("PlaceTimePlans$Weather", "plan", "LPlaceTimePlans$Placing;", true)
  | 2 => ("PlaceTimePlans$Weather", "daysLeft", "[I", true)
  | _ => ("PlaceTimePlans$Weather", "state", "I", false)
def ft_H : Nat → FieldType := fun k => match k with
  | 0 => .object "PlaceTimePlans$Line"
  | 1 => .object "PlaceTimePlans$Placing"
  | 2 => .array (.int)
  | _ => .int
theorem fn_H : ∀ a, a < 4 → ∀ b, b < 4 → a ≠ b → (ff_H a).2.1 ≠ (ff_H b).2.1 := by decide +kernel
theorem ft_H_ok : ∀ k, k < 4 → parseFieldDescriptor (ff_H k).2.2.1 = some (ft_H k) := by decide +kernel
theorem fi_H : ∀ w ∈ u_ws "PlaceTimePlans$Weather" ff_H 4, w ∈ tables_1 := by decide +kernel
theorem fg_H : ∀ w ∈ u_ws "PlaceTimePlans$Weather" ff_H 4, goodWord w = true := by decide +kernel
def ff_W : u_T := fun k => match k with
  | 0 => ("PlaceTimePlans$Window", "least", "I", false)
  | _ => ("PlaceTimePlans$Window", "greatest", "I", false)
def ft_W : Nat → FieldType := fun k => match k with
  | 0 => .int
  | _ => .int
theorem fn_W : ∀ a, a < 2 → ∀ b, b < 2 → a ≠ b → (ff_W a).2.1 ≠ (ff_W b).2.1 := by decide +kernel
theorem ft_W_ok : ∀ k, k < 2 → parseFieldDescriptor (ff_W k).2.2.1 = some (ft_W k) := by decide +kernel
theorem fi_W : ∀ w ∈ u_ws "PlaceTimePlans$Window" ff_W 2, w ∈ tables_1 := by decide +kernel
theorem fg_W : ∀ w ∈ u_ws "PlaceTimePlans$Window" ff_W 2, goodWord w = true := by decide +kernel
def ff_K : u_T := fun k => match k with
  | 0 => ("PlaceTimePlans$Work", "crewNumber", "I", false)
  | 1 => ("PlaceTimePlans$Work", "kind", "I", false)
  | 2 => ("PlaceTimePlans$Work", "from", "I", false)
  | 3 => ("PlaceTimePlans$Work", "to", "I", false)
  | 4 => ("PlaceTimePlans$Work", "speed", "I", false)
  | 5 => ("PlaceTimePlans$Work", "daysNeeded", "I", false)
  | 6 => ("PlaceTimePlans$Work", "bothWays", "Z", false)
  | 7 => ("PlaceTimePlans$Work", "seasonFirst", "I", false)
  | 8 => ("PlaceTimePlans$Work", "seasonLast", "I", false)
  | 9 => ("PlaceTimePlans$Work", "notBefore", "I", false)
  | _ => ("PlaceTimePlans$Work", "frozen", "Z", false)
def ft_K : Nat → FieldType := fun k => match k with
  | 0 => .int
  | 1 => .int
  | 2 => .int
  | 3 => .int
  | 4 => .int
  | 5 => .int
  | 6 => .boolean
  | 7 => .int
  | 8 => .int
  | 9 => .int
  | _ => .boolean
theorem fn_K : ∀ a, a < 11 → ∀ b, b < 11 → a ≠ b → (ff_K a).2.1 ≠ (ff_K b).2.1 := by decide +kernel
theorem ft_K_ok : ∀ k, k < 11 → parseFieldDescriptor (ff_K k).2.2.1 = some (ft_K k) := by decide +kernel
theorem fi_K : ∀ w ∈ u_ws "PlaceTimePlans$Work" ff_K 11, w ∈ tables_1 := by decide +kernel
theorem fg_K : ∀ w ∈ u_ws "PlaceTimePlans$Work" ff_K 11, goodWord w = true := by decide +kernel
def ff_T : u_T := fun k => match k with
  | 0 => ("PlaceTimePlans", "line", "LPlaceTimePlans$Line;", true)
  | 1 => ("PlaceTimePlans", "rules", "LPlaceTimePlans$Rules;", true)
  | 2 => ("PlaceTimePlans", "plan", "LPlaceTimePlans$Placing;", true)
  | 3 => ("PlaceTimePlans", "search", "LPlaceTimePlans$Search;", true)
  | 4 => ("PlaceTimePlans", "room", "LPlaceTimePlans$Window;", true)
  | 5 => ("PlaceTimePlans", "weather", "LPlaceTimePlans$Weather;", true)
  | 6 => ("PlaceTimePlans", "movedWorks", "[Z", true)
  | 7 => ("PlaceTimePlans", "planAtHand", "Z", false)
  | 8 => ("PlaceTimePlans", "planEnd", "I", false)
  | 9 => ("PlaceTimePlans", "lastProved", "Z", false)
  | _ => ("PlaceTimePlans", "lastTried", "I", false)
def ft_T : Nat → FieldType := fun k => match k with
  | 0 => .object "PlaceTimePlans$Line"
  | 1 => .object "PlaceTimePlans$Rules"
  | 2 => .object "PlaceTimePlans$Placing"
  | 3 => .object "PlaceTimePlans$Search"
  | 4 => .object "PlaceTimePlans$Window"
  | 5 => .object "PlaceTimePlans$Weather"
  | 6 => .array (.boolean)
  | 7 => .boolean
  | 8 => .int
  | 9 => .boolean
  | _ => .int
theorem fn_T : ∀ a, a < 11 → ∀ b, b < 11 → a ≠ b → (ff_T a).2.1 ≠ (ff_T b).2.1 := by decide +kernel
theorem ft_T_ok : ∀ k, k < 11 → parseFieldDescriptor (ff_T k).2.2.1 = some (ft_T k) := by decide +kernel
theorem fi_T : ∀ w ∈ u_ws "PlaceTimePlans" ff_T 11, w ∈ tables_1 := by decide +kernel
theorem fg_T : ∀ w ∈ u_ws "PlaceTimePlans" ff_T 11, goodWord w = true := by decide +kernel
def ff_M : u_T := fun k => match k with
  | 0 => ("PlaceTimePlansModel", "crews", "I", false)
  | 1 => ("PlaceTimePlansModel", "kinds", "[I", true)
  | 2 => ("PlaceTimePlansModel", "works", "I", false)
  | 3 => ("PlaceTimePlansModel", "crewOf", "[I", true)
  | 4 => ("PlaceTimePlansModel", "froms", "[I", true)
  | 5 => ("PlaceTimePlansModel", "tos", "[I", true)
  | 6 => ("PlaceTimePlansModel", "speeds", "[I", true)
  | 7 => ("PlaceTimePlansModel", "both", "[Z", true)
  | 8 => ("PlaceTimePlansModel", "gaps", "[I", true)
  | 9 => ("PlaceTimePlansModel", "firsts", "[I", true)
  | 10 => ("PlaceTimePlansModel", "lasts", "[I", true)
  | 11 => ("PlaceTimePlansModel", "bars", "I", false)
  | 12 => ("PlaceTimePlansModel", "barWork", "[I", true)
  | 13 => ("PlaceTimePlansModel", "barPlace", "[I", true)
  | 14 => ("PlaceTimePlansModel", "barUntil", "[I", true)
  | 15 => ("PlaceTimePlansModel", "rests", "I", false)
  | 16 => ("PlaceTimePlansModel", "rest", "[Z", true)
  | 17 => ("PlaceTimePlansModel", "wet", "[Z", true)
  | 18 => ("PlaceTimePlansModel", "most", "[I", true)
  | 19 => ("PlaceTimePlansModel", "has", "Z", false)
  | 20 => ("PlaceTimePlansModel", "starts", "[I", true)
  | 21 => ("PlaceTimePlansModel", "ways", "[I", true)
  | 22 => ("PlaceTimePlansModel", "frozen", "[Z", true)
  | 23 => ("PlaceTimePlansModel", "lates", "[I", true)
  | 24 => ("PlaceTimePlansModel", "moved", "[Z", true)
  | 25 => ("PlaceTimePlansModel", "proved", "Z", false)
  | 26 => ("PlaceTimePlansModel", "tried", "I", false)
  | 27 => ("PlaceTimePlansModel", "begin", "[I", true)
  | 28 => ("PlaceTimePlansModel", "way", "[I", true)
  | 29 => ("PlaceTimePlansModel", "end", "[I", true)
  | 30 => ("PlaceTimePlansModel", "arrive", "[I", true)
  | 31 => ("PlaceTimePlansModel", "leave", "[I", true)
  | 32 => ("PlaceTimePlansModel", "nextTry", "[I", true)
  | 33 => ("PlaceTimePlansModel", "hasBest", "Z", false)
  | 34 => ("PlaceTimePlansModel", "bestEnd", "I", false)
  | 35 => ("PlaceTimePlansModel", "bestMoved", "I", false)
  | 36 => ("PlaceTimePlansModel", "bestStart", "[I", true)
  | _ => ("PlaceTimePlansModel", "bestWay", "[I", true)
def ft_M : Nat → FieldType := fun k => match k with
  | 0 => .int
  | 1 => .array (.int)
  | 2 => .int
  | 3 => .array (.int)
  | 4 => .array (.int)
  | 5 => .array (.int)
  | 6 => .array (.int)
  | 7 => .array (.boolean)
  | 8 => .array (.int)
  | 9 => .array (.int)
  | 10 => .array (.int)
  | 11 => .int
  | 12 => .array (.int)
  | 13 => .array (.int)
  | 14 => .array (.int)
  | 15 => .int
  | 16 => .array (.boolean)
  | 17 => .array (.boolean)
  | 18 => .array (.int)
  | 19 => .boolean
  | 20 => .array (.int)
  | 21 => .array (.int)
  | 22 => .array (.boolean)
  | 23 => .array (.int)
  | 24 => .array (.boolean)
  | 25 => .boolean
  | 26 => .int
  | 27 => .array (.int)
  | 28 => .array (.int)
  | 29 => .array (.int)
  | 30 => .array (.int)
  | 31 => .array (.int)
  | 32 => .array (.int)
  | 33 => .boolean
  | 34 => .int
  | 35 => .int
  | 36 => .array (.int)
  | _ => .array (.int)
theorem fn_M : ∀ a, a < 38 → ∀ b, b < 38 → a ≠ b → (ff_M a).2.1 ≠ (ff_M b).2.1 := by decide +kernel
theorem ft_M_ok : ∀ k, k < 38 → parseFieldDescriptor (ff_M k).2.2.1 = some (ft_M k) := by decide +kernel
theorem fi_M : ∀ w ∈ u_ws "PlaceTimePlansModel" ff_M 38, w ∈ tables_1 := by decide +kernel
theorem fg_M : ∀ w ∈ u_ws "PlaceTimePlansModel" ff_M 38, goodWord w = true := by decide +kernel
abbrev sx_cl : List vw_C := [("PlaceTimePlans$Days", ff_D, 4), ("PlaceTimePlans$Line", ff_L, 11), ("PlaceTimePlans$Placing", ff_P, 2), ("PlaceTimePlans$Rules", ff_R, 3), ("PlaceTimePlans$Search", ff_S, 15), ("PlaceTimePlans$Weather", ff_H, 4), ("PlaceTimePlans$Window", ff_W, 2), ("PlaceTimePlans$Work", ff_K, 11), ("PlaceTimePlans", ff_T, 11), ("PlaceTimePlansModel", ff_M, 38)]
abbrev sx_ty : List FieldType := [.int, .boolean, .object "PlaceTimePlans$Work", .object "PlaceTimePlans$Window"]
def sx_fty : Nat → Nat → FieldType := fun c => match c with
  | 0 => ft_D
  | 1 => ft_L
  | 2 => ft_P
  | 3 => ft_R
  | 4 => ft_S
  | 5 => ft_H
  | 6 => ft_W
  | 7 => ft_K
  | 8 => ft_T
  | _ => ft_M
/-- a field that holds a number -/
def sx_isI (c k : Nat) : Bool := match sx_fty c k with
  | .int => true
  | .boolean => true
  | _ => false
theorem sx_inT {w : Cond} (h : w ∈ tables_1) (hg : goodWord w = true) : w ∈ sx_T := List.mem_filter.mpr ⟨List.mem_append_right _ h, hg⟩
theorem sx_inN {w : Cond} (h : w ∈ tables_1) (hg : sx_isN w = true) : w ∈ sx_N := List.mem_filter.mpr ⟨List.mem_append_right _ h, hg⟩
theorem sx_cls : ∀ (ci : Nat) (q : vw_C), sx_cl[ci]? = some q → (∀ w ∈ u_ws q.1 q.2.1 q.2.2, w ∈ sx_T) ∧ (∀ k, k < q.2.2 → parseFieldDescriptor (q.2.1 k).2.2.1 = some (sx_fty ci k)) ∧ (∀ a, a < q.2.2 → ∀ b, b < q.2.2 → a ≠ b → (q.2.1 a).2.1 ≠ (q.2.1 b).2.1) ∧ (∀ k, k < q.2.2 → defaultValue (sx_fty ci k) = if sx_isI ci k = true then .int 0 else .null) := by
  intro ci q hq
  match ci, hq with
  | 0, hq => cases hq; exact ⟨fun w h => sx_inT (fi_D w h) (fg_D w h), ft_D_ok, fn_D, by decide +kernel⟩
  | 1, hq => cases hq; exact ⟨fun w h => sx_inT (fi_L w h) (fg_L w h), ft_L_ok, fn_L, by decide +kernel⟩
  | 2, hq => cases hq; exact ⟨fun w h => sx_inT (fi_P w h) (fg_P w h), ft_P_ok, fn_P, by decide +kernel⟩
  | 3, hq => cases hq; exact ⟨fun w h => sx_inT (fi_R w h) (fg_R w h), ft_R_ok, fn_R, by decide +kernel⟩
  | 4, hq => cases hq; exact ⟨fun w h => sx_inT (fi_S w h) (fg_S w h), ft_S_ok, fn_S, by decide +kernel⟩
  | 5, hq => cases hq; exact ⟨fun w h => sx_inT (fi_H w h) (fg_H w h), ft_H_ok, fn_H, by decide +kernel⟩
  | 6, hq => cases hq; exact ⟨fun w h => sx_inT (fi_W w h) (fg_W w h), ft_W_ok, fn_W, by decide +kernel⟩
  | 7, hq => cases hq; exact ⟨fun w h => sx_inT (fi_K w h) (fg_K w h), ft_K_ok, fn_K, by decide +kernel⟩
  | 8, hq => cases hq; exact ⟨fun w h => sx_inT (fi_T w h) (fg_T w h), ft_T_ok, fn_T, by decide +kernel⟩
  | 9, hq => cases hq; exact ⟨fun w h => sx_inT (fi_M w h) (fg_M w h), ft_M_ok, fn_M, by decide +kernel⟩
  | k + 10, hq => simp [sx_cl] at hq
end
section
theorem tw_0 : Cond.initialized "PlaceTimePlansLaw" ∈ sx_T := sx_inT (List.mem_append_left _ (List.mem_of_getElem? (l := tables_1_1) (i := 0) rfl)) rfl
theorem tw_1 : Cond.initialized "PlaceTimePlans" ∈ sx_T := sx_inT (List.mem_append_left _ (List.mem_of_getElem? (l := tables_1_1) (i := 1) rfl)) rfl
theorem tw_2 : Cond.initialized "PlaceTimePlans$Line" ∈ sx_T := sx_inT (List.mem_append_left _ (List.mem_of_getElem? (l := tables_1_1) (i := 2) rfl)) rfl
theorem tw_3 : Cond.initialized "PlaceTimePlans$Days" ∈ sx_T := sx_inT (List.mem_append_left _ (List.mem_of_getElem? (l := tables_1_1) (i := 3) rfl)) rfl
theorem tw_4 : Cond.initialized "PlaceTimePlans$Work" ∈ sx_T := sx_inT (List.mem_append_left _ (List.mem_of_getElem? (l := tables_1_1) (i := 4) rfl)) rfl
theorem tw_5 : Cond.initialized "PlaceTimePlans$Rules" ∈ sx_T := sx_inT (List.mem_append_left _ (List.mem_of_getElem? (l := tables_1_1) (i := 5) rfl)) rfl
theorem tw_6 : Cond.initialized "PlaceTimePlans$Window" ∈ sx_T := sx_inT (List.mem_append_left _ (List.mem_of_getElem? (l := tables_1_1) (i := 6) rfl)) rfl
theorem tw_7 : Cond.initialized "PlaceTimePlans$Placing" ∈ sx_T := sx_inT (List.mem_append_left _ (List.mem_of_getElem? (l := tables_1_1) (i := 7) rfl)) rfl
theorem tw_8 : Cond.initialized "PlaceTimePlans$Search" ∈ sx_T := sx_inT (List.mem_append_left _ (List.mem_of_getElem? (l := tables_1_1) (i := 8) rfl)) rfl
theorem tw_9 : Cond.initialized "PlaceTimePlans$Weather" ∈ sx_T := sx_inT (List.mem_append_left _ (List.mem_of_getElem? (l := tables_1_1) (i := 9) rfl)) rfl
theorem tw_10 : Cond.initialized "PlaceTimePlansModel" ∈ sx_T := sx_inT (List.mem_append_left _ (List.mem_of_getElem? (l := tables_1_1) (i := 10) rfl)) rfl
theorem tw_11 : Cond.initialized "java/lang/Math" ∈ sx_T := sx_inT (List.mem_append_left _ (List.mem_of_getElem? (l := tables_1_1) (i := 11) rfl)) rfl
theorem tw_12 : Cond.classLink "PlaceTimePlansLaw" 7 "PlaceTimePlans" ∈ sx_T := sx_inT (List.mem_append_left _ (List.mem_of_getElem? (l := tables_1_1) (i := 12) rfl)) rfl
theorem tw_13 : Cond.instantiable "PlaceTimePlans" 11 ∈ sx_T := sx_inT (List.mem_append_left _ (List.mem_of_getElem? (l := tables_1_1) (i := 13) rfl)) rfl
theorem tw_14 : Cond.methodLink "PlaceTimePlansLaw" 9 ⟨"PlaceTimePlans", "<init>", "()V"⟩ ∈ sx_T := sx_inT (List.mem_append_left _ (List.mem_of_getElem? (l := tables_1_1) (i := 14) rfl)) rfl
theorem tw_15 : Cond.instanceMethod ⟨"PlaceTimePlans", "<init>", "()V"⟩ ∈ sx_T := sx_inT (List.mem_append_left _ (List.mem_of_getElem? (l := tables_1_1) (i := 15) rfl)) rfl
theorem tw_16 : Cond.code ⟨"PlaceTimePlans", "<init>", "()V"⟩ prog_1_method_1_code 1 none ∈ sx_T := sx_inT (List.mem_append_left _ (List.mem_of_getElem? (l := tables_1_1) (i := 16) rfl)) rfl
theorem tw_17 : Cond.methodLink "PlaceTimePlans" 1 ⟨"java/lang/Object", "<init>", "()V"⟩ ∈ sx_T := sx_inT (List.mem_append_left _ (List.mem_of_getElem? (l := tables_1_1) (i := 17) rfl)) rfl
theorem tw_18 : Cond.instanceMethod ⟨"java/lang/Object", "<init>", "()V"⟩ ∈ sx_T := sx_inT (List.mem_append_left _ (List.mem_of_getElem? (l := tables_1_1) (i := 18) rfl)) rfl
theorem tw_19 : Cond.code ⟨"java/lang/Object", "<init>", "()V"⟩ object_method_1_code 1 none ∈ sx_T := sx_inT (List.mem_append_left _ (List.mem_of_getElem? (l := tables_1_1) (i := 19) rfl)) rfl
theorem tw_20 : Cond.classLink "PlaceTimePlans" 7 "PlaceTimePlans$Line" ∈ sx_T := sx_inT (List.mem_append_left _ (List.mem_of_getElem? (l := tables_1_1) (i := 20) rfl)) rfl
theorem tw_21 : Cond.instantiable "PlaceTimePlans$Line" 11 ∈ sx_T := sx_inT (List.mem_append_left _ (List.mem_of_getElem? (l := tables_1_1) (i := 21) rfl)) rfl
theorem tw_22 : Cond.methodLink "PlaceTimePlans" 9 ⟨"PlaceTimePlans$Line", "<init>", "()V"⟩ ∈ sx_T := sx_inT (List.mem_append_left _ (List.mem_of_getElem? (l := tables_1_1) (i := 22) rfl)) rfl
theorem tw_23 : Cond.instanceMethod ⟨"PlaceTimePlans$Line", "<init>", "()V"⟩ ∈ sx_T := sx_inT (List.mem_append_left _ (List.mem_of_getElem? (l := tables_1_1) (i := 23) rfl)) rfl
theorem tw_24 : Cond.code ⟨"PlaceTimePlans$Line", "<init>", "()V"⟩ prog_3_method_1_code 2 none ∈ sx_T := sx_inT (List.mem_append_left _ (List.mem_of_getElem? (l := tables_1_1) (i := 24) rfl)) rfl
theorem tw_25 : Cond.methodLink "PlaceTimePlans$Line" 3 ⟨"java/lang/Object", "<init>", "()V"⟩ ∈ sx_T := sx_inT (List.mem_append_left _ (List.mem_of_getElem? (l := tables_1_1) (i := 25) rfl)) rfl
theorem tw_26 : Cond.classLink "PlaceTimePlans$Line" 9 "PlaceTimePlans$Days" ∈ sx_T := sx_inT (List.mem_append_left _ (List.mem_of_getElem? (l := tables_1_1) (i := 26) rfl)) rfl
theorem tw_27 : Cond.instantiable "PlaceTimePlans$Days" 4 ∈ sx_T := sx_inT (List.mem_append_left _ (List.mem_of_getElem? (l := tables_1_1) (i := 27) rfl)) rfl
theorem tw_28 : Cond.methodLink "PlaceTimePlans$Line" 11 ⟨"PlaceTimePlans$Days", "<init>", "()V"⟩ ∈ sx_T := sx_inT (List.mem_append_left _ (List.mem_of_getElem? (l := tables_1_1) (i := 28) rfl)) rfl
theorem tw_29 : Cond.instanceMethod ⟨"PlaceTimePlans$Days", "<init>", "()V"⟩ ∈ sx_T := sx_inT (List.mem_append_left _ (List.mem_of_getElem? (l := tables_1_1) (i := 29) rfl)) rfl
theorem tw_30 : Cond.code ⟨"PlaceTimePlans$Days", "<init>", "()V"⟩ prog_2_method_1_code 1 none ∈ sx_T := sx_inT (List.mem_append_left _ (List.mem_of_getElem? (l := tables_1_1) (i := 30) rfl)) rfl
theorem tw_31 : Cond.methodLink "PlaceTimePlans$Days" 3 ⟨"java/lang/Object", "<init>", "()V"⟩ ∈ sx_T := sx_inT (List.mem_append_left _ (List.mem_of_getElem? (l := tables_1_1) (i := 31) rfl)) rfl
theorem tw_32 : Cond.methodLink "PlaceTimePlans$Days" 22 ⟨"PlaceTimePlans$Days", "countWorkingDays", "()V"⟩ ∈ sx_T := sx_inT (List.mem_append_left _ (List.mem_of_getElem? (l := tables_1_1) (i := 32) rfl)) rfl
theorem tw_34 : Cond.instanceMethod ⟨"PlaceTimePlans$Days", "countWorkingDays", "()V"⟩ ∈ sx_T := sx_inT (List.mem_append_left _ (List.mem_of_getElem? (l := tables_1_1) (i := 34) rfl)) rfl
theorem tw_35 : Cond.code ⟨"PlaceTimePlans$Days", "countWorkingDays", "()V"⟩ prog_2_method_6_code 3 none ∈ sx_T := sx_inT (List.mem_append_left _ (List.mem_of_getElem? (l := tables_1_1) (i := 35) rfl)) rfl
theorem tw_36 : Cond.fieldLink "PlaceTimePlans$Days" 9 "PlaceTimePlans$Days" "resting" "[Z" ∈ sx_T := sx_inT (List.mem_append_left _ (List.mem_of_getElem? (l := tables_1_1) (i := 36) rfl)) rfl
theorem tw_37 : Cond.fieldLink "PlaceTimePlans$Days" 15 "PlaceTimePlans$Days" "workingBefore" "[I" ∈ sx_T := sx_inT (List.mem_append_left _ (List.mem_of_getElem? (l := tables_1_1) (i := 37) rfl)) rfl
theorem tw_38 : Cond.fieldLink "PlaceTimePlans$Days" 19 "PlaceTimePlans$Days" "workingDays" "[I" ∈ sx_T := sx_inT (List.mem_append_left _ (List.mem_of_getElem? (l := tables_1_1) (i := 38) rfl)) rfl
theorem tw_39 : Cond.fieldLink "PlaceTimePlans$Days" 29 "PlaceTimePlans$Days" "rests" "I" ∈ sx_T := sx_inT (List.mem_append_left _ (List.mem_of_getElem? (l := tables_1_1) (i := 39) rfl)) rfl
theorem tw_40 : Cond.fieldLink "PlaceTimePlans" 230 "PlaceTimePlans$Days" "rests" "I" ∈ sx_T := sx_inT (List.mem_append_left _ (List.mem_of_getElem? (l := tables_1_1) (i := 40) rfl)) rfl
theorem tw_50 : Cond.arrayClass FieldType.boolean ∈ sx_T := sx_inT (List.mem_append_left _ (List.mem_of_getElem? (l := tables_1_1) (i := 50) rfl)) rfl
theorem tw_51 : Cond.arrayClass FieldType.int ∈ sx_T := sx_inT (List.mem_append_left _ (List.mem_of_getElem? (l := tables_1_1) (i := 51) rfl)) rfl
theorem tw_52 : Cond.classLink "PlaceTimePlans$Line" 22 "PlaceTimePlans$Work" ∈ sx_T := sx_inT (List.mem_append_left _ (List.mem_of_getElem? (l := tables_1_1) (i := 52) rfl)) rfl
theorem tw_53 : Cond.arrayOver (FieldType.object "PlaceTimePlans$Work") ∈ sx_N := sx_inN (List.mem_append_left _ (List.mem_of_getElem? (l := tables_1_1) (i := 53) rfl)) rfl
theorem tw_54 : Cond.instantiable "PlaceTimePlans$Work" 11 ∈ sx_T := sx_inT (List.mem_append_left _ (List.mem_of_getElem? (l := tables_1_1) (i := 54) rfl)) rfl
theorem tw_55 : Cond.methodLinkNest "PlaceTimePlans$Line" 43 ⟨"PlaceTimePlans$Work", "<init>", "()V"⟩ "PlaceTimePlans" ∈ sx_N := sx_inN (List.mem_append_left _ (List.mem_of_getElem? (l := tables_1_1) (i := 55) rfl)) rfl
theorem tw_56 : Cond.instanceMethod ⟨"PlaceTimePlans$Work", "<init>", "()V"⟩ ∈ sx_T := sx_inT (List.mem_append_left _ (List.mem_of_getElem? (l := tables_1_1) (i := 56) rfl)) rfl
theorem tw_57 : Cond.code ⟨"PlaceTimePlans$Work", "<init>", "()V"⟩ prog_9_method_1_code 1 none ∈ sx_T := sx_inT (List.mem_append_left _ (List.mem_of_getElem? (l := tables_1_1) (i := 57) rfl)) rfl
theorem tw_58 : Cond.methodLink "PlaceTimePlans$Work" 3 ⟨"java/lang/Object", "<init>", "()V"⟩ ∈ sx_T := sx_inT (List.mem_append_left _ (List.mem_of_getElem? (l := tables_1_1) (i := 58) rfl)) rfl
theorem tw_59 : Cond.fieldLink "PlaceTimePlans$Line" 55 "PlaceTimePlans$Work" "crewNumber" "I" ∈ sx_T := sx_inT (List.mem_append_left _ (List.mem_of_getElem? (l := tables_1_1) (i := 59) rfl)) rfl
theorem tw_60 : Cond.fieldLink "PlaceTimePlans$Rules" 142 "PlaceTimePlans$Work" "crewNumber" "I" ∈ sx_T := sx_inT (List.mem_append_left _ (List.mem_of_getElem? (l := tables_1_1) (i := 60) rfl)) rfl
theorem tw_61 : Cond.fieldLink "PlaceTimePlans$Line" 58 "PlaceTimePlans$Work" "kind" "I" ∈ sx_T := sx_inT (List.mem_append_left _ (List.mem_of_getElem? (l := tables_1_1) (i := 61) rfl)) rfl
theorem tw_62 : Cond.fieldLink "PlaceTimePlans$Rules" 145 "PlaceTimePlans$Work" "kind" "I" ∈ sx_T := sx_inT (List.mem_append_left _ (List.mem_of_getElem? (l := tables_1_1) (i := 62) rfl)) rfl
theorem tw_63 : Cond.fieldLink "PlaceTimePlans" 189 "PlaceTimePlans$Work" "kind" "I" ∈ sx_T := sx_inT (List.mem_append_left _ (List.mem_of_getElem? (l := tables_1_1) (i := 63) rfl)) rfl
theorem tw_64 : Cond.fieldLink "PlaceTimePlans$Work" 30 "PlaceTimePlans$Work" "from" "I" ∈ sx_T := sx_inT (List.mem_append_left _ (List.mem_of_getElem? (l := tables_1_1) (i := 64) rfl)) rfl
theorem tw_65 : Cond.fieldLink "PlaceTimePlans$Line" 61 "PlaceTimePlans$Work" "from" "I" ∈ sx_T := sx_inT (List.mem_append_left _ (List.mem_of_getElem? (l := tables_1_1) (i := 65) rfl)) rfl
theorem tw_66 : Cond.fieldLink "PlaceTimePlans$Work" 27 "PlaceTimePlans$Work" "to" "I" ∈ sx_T := sx_inT (List.mem_append_left _ (List.mem_of_getElem? (l := tables_1_1) (i := 66) rfl)) rfl
theorem tw_67 : Cond.fieldLink "PlaceTimePlans$Line" 64 "PlaceTimePlans$Work" "to" "I" ∈ sx_T := sx_inT (List.mem_append_left _ (List.mem_of_getElem? (l := tables_1_1) (i := 67) rfl)) rfl
theorem tw_68 : Cond.fieldLink "PlaceTimePlans$Work" 9 "PlaceTimePlans$Work" "speed" "I" ∈ sx_T := sx_inT (List.mem_append_left _ (List.mem_of_getElem? (l := tables_1_1) (i := 68) rfl)) rfl
theorem tw_69 : Cond.fieldLink "PlaceTimePlans$Rules" 107 "PlaceTimePlans$Work" "speed" "I" ∈ sx_T := sx_inT (List.mem_append_left _ (List.mem_of_getElem? (l := tables_1_1) (i := 69) rfl)) rfl
theorem tw_70 : Cond.fieldLink "PlaceTimePlans" 135 "PlaceTimePlans$Work" "speed" "I" ∈ sx_T := sx_inT (List.mem_append_left _ (List.mem_of_getElem? (l := tables_1_1) (i := 70) rfl)) rfl
theorem tw_71 : Cond.fieldLink "PlaceTimePlans$Line" 112 "PlaceTimePlans$Work" "speed" "I" ∈ sx_T := sx_inT (List.mem_append_left _ (List.mem_of_getElem? (l := tables_1_1) (i := 71) rfl)) rfl
theorem tw_72 : Cond.fieldLink "PlaceTimePlans$Work" 33 "PlaceTimePlans$Work" "daysNeeded" "I" ∈ sx_T := sx_inT (List.mem_append_left _ (List.mem_of_getElem? (l := tables_1_1) (i := 72) rfl)) rfl
theorem tw_73 : Cond.fieldLink "PlaceTimePlans$Weather" 36 "PlaceTimePlans$Work" "daysNeeded" "I" ∈ sx_T := sx_inT (List.mem_append_left _ (List.mem_of_getElem? (l := tables_1_1) (i := 73) rfl)) rfl
theorem tw_74 : Cond.fieldLink "PlaceTimePlans$Rules" 61 "PlaceTimePlans$Work" "daysNeeded" "I" ∈ sx_T := sx_inT (List.mem_append_left _ (List.mem_of_getElem? (l := tables_1_1) (i := 74) rfl)) rfl
theorem tw_75 : Cond.fieldLink "PlaceTimePlans$Line" 91 "PlaceTimePlans$Work" "daysNeeded" "I" ∈ sx_T := sx_inT (List.mem_append_left _ (List.mem_of_getElem? (l := tables_1_1) (i := 75) rfl)) rfl
theorem tw_76 : Cond.fieldLink "PlaceTimePlans$Rules" 41 "PlaceTimePlans$Work" "bothWays" "Z" ∈ sx_T := sx_inT (List.mem_append_left _ (List.mem_of_getElem? (l := tables_1_1) (i := 76) rfl)) rfl
theorem tw_77 : Cond.fieldLink "PlaceTimePlans$Line" 67 "PlaceTimePlans$Work" "bothWays" "Z" ∈ sx_T := sx_inT (List.mem_append_left _ (List.mem_of_getElem? (l := tables_1_1) (i := 77) rfl)) rfl
theorem tw_78 : Cond.fieldLink "PlaceTimePlans$Search" 87 "PlaceTimePlans$Work" "bothWays" "Z" ∈ sx_T := sx_inT (List.mem_append_left _ (List.mem_of_getElem? (l := tables_1_1) (i := 78) rfl)) rfl
theorem tw_79 : Cond.fieldLink "PlaceTimePlans$Rules" 64 "PlaceTimePlans$Work" "seasonFirst" "I" ∈ sx_T := sx_inT (List.mem_append_left _ (List.mem_of_getElem? (l := tables_1_1) (i := 79) rfl)) rfl
theorem tw_80 : Cond.fieldLink "PlaceTimePlans" 98 "PlaceTimePlans$Work" "seasonFirst" "I" ∈ sx_T := sx_inT (List.mem_append_left _ (List.mem_of_getElem? (l := tables_1_1) (i := 80) rfl)) rfl
theorem tw_81 : Cond.fieldLink "PlaceTimePlans$Work" 15 "PlaceTimePlans$Work" "seasonLast" "I" ∈ sx_T := sx_inT (List.mem_append_left _ (List.mem_of_getElem? (l := tables_1_1) (i := 81) rfl)) rfl
theorem tw_82 : Cond.fieldLink "PlaceTimePlans$Rules" 57 "PlaceTimePlans$Work" "seasonLast" "I" ∈ sx_T := sx_inT (List.mem_append_left _ (List.mem_of_getElem? (l := tables_1_1) (i := 82) rfl)) rfl
theorem tw_83 : Cond.fieldLink "PlaceTimePlans" 103 "PlaceTimePlans$Work" "seasonLast" "I" ∈ sx_T := sx_inT (List.mem_append_left _ (List.mem_of_getElem? (l := tables_1_1) (i := 83) rfl)) rfl
theorem tw_84 : Cond.fieldLink "PlaceTimePlans$Rules" 77 "PlaceTimePlans$Work" "notBefore" "I" ∈ sx_T := sx_inT (List.mem_append_left _ (List.mem_of_getElem? (l := tables_1_1) (i := 84) rfl)) rfl
theorem tw_85 : Cond.fieldLink "PlaceTimePlans" 203 "PlaceTimePlans$Work" "notBefore" "I" ∈ sx_T := sx_inT (List.mem_append_left _ (List.mem_of_getElem? (l := tables_1_1) (i := 85) rfl)) rfl
theorem tw_86 : Cond.fieldLink "PlaceTimePlans$Search" 76 "PlaceTimePlans$Work" "frozen" "Z" ∈ sx_T := sx_inT (List.mem_append_left _ (List.mem_of_getElem? (l := tables_1_1) (i := 86) rfl)) rfl
theorem tw_87 : Cond.fieldLink "PlaceTimePlans$Line" 118 "PlaceTimePlans$Work" "frozen" "Z" ∈ sx_T := sx_inT (List.mem_append_left _ (List.mem_of_getElem? (l := tables_1_1) (i := 87) rfl)) rfl
theorem tw_88 : Cond.fieldLink "PlaceTimePlans" 206 "PlaceTimePlans$Work" "frozen" "Z" ∈ sx_T := sx_inT (List.mem_append_left _ (List.mem_of_getElem? (l := tables_1_1) (i := 88) rfl)) rfl
theorem tw_112 : Cond.fieldLink "PlaceTimePlans$Line" 12 "PlaceTimePlans$Line" "days" "LPlaceTimePlans$Days;" ∈ sx_T := sx_inT (List.mem_append_left _ (List.mem_of_getElem? (l := tables_1_1) (i := 112) rfl)) rfl
theorem tw_113 : Cond.fieldLink "PlaceTimePlans$Rules" 22 "PlaceTimePlans$Line" "days" "LPlaceTimePlans$Days;" ∈ sx_T := sx_inT (List.mem_append_left _ (List.mem_of_getElem? (l := tables_1_1) (i := 113) rfl)) rfl
theorem tw_114 : Cond.fieldLink "PlaceTimePlans$Weather" 45 "PlaceTimePlans$Line" "days" "LPlaceTimePlans$Days;" ∈ sx_T := sx_inT (List.mem_append_left _ (List.mem_of_getElem? (l := tables_1_1) (i := 114) rfl)) rfl
theorem tw_115 : Cond.fieldLink "PlaceTimePlans$Search" 135 "PlaceTimePlans$Line" "days" "LPlaceTimePlans$Days;" ∈ sx_T := sx_inT (List.mem_append_left _ (List.mem_of_getElem? (l := tables_1_1) (i := 115) rfl)) rfl
theorem tw_116 : Cond.fieldLink "PlaceTimePlans" 115 "PlaceTimePlans$Line" "days" "LPlaceTimePlans$Days;" ∈ sx_T := sx_inT (List.mem_append_left _ (List.mem_of_getElem? (l := tables_1_1) (i := 116) rfl)) rfl
theorem tw_117 : Cond.fieldLink "PlaceTimePlans$Line" 18 "PlaceTimePlans$Line" "crewKinds" "[I" ∈ sx_T := sx_inT (List.mem_append_left _ (List.mem_of_getElem? (l := tables_1_1) (i := 117) rfl)) rfl
theorem tw_118 : Cond.fieldLink "PlaceTimePlans$Line" 24 "PlaceTimePlans$Line" "works" "[LPlaceTimePlans$Work;" ∈ sx_T := sx_inT (List.mem_append_left _ (List.mem_of_getElem? (l := tables_1_1) (i := 118) rfl)) rfl
theorem tw_119 : Cond.fieldLink "PlaceTimePlans$Rules" 37 "PlaceTimePlans$Line" "works" "[LPlaceTimePlans$Work;" ∈ sx_T := sx_inT (List.mem_append_left _ (List.mem_of_getElem? (l := tables_1_1) (i := 119) rfl)) rfl
theorem tw_120 : Cond.fieldLink "PlaceTimePlans$Search" 72 "PlaceTimePlans$Line" "works" "[LPlaceTimePlans$Work;" ∈ sx_T := sx_inT (List.mem_append_left _ (List.mem_of_getElem? (l := tables_1_1) (i := 120) rfl)) rfl
theorem tw_121 : Cond.fieldLink "PlaceTimePlans$Weather" 32 "PlaceTimePlans$Line" "works" "[LPlaceTimePlans$Work;" ∈ sx_T := sx_inT (List.mem_append_left _ (List.mem_of_getElem? (l := tables_1_1) (i := 121) rfl)) rfl
theorem tw_122 : Cond.fieldLink "PlaceTimePlans" 94 "PlaceTimePlans$Line" "works" "[LPlaceTimePlans$Work;" ∈ sx_T := sx_inT (List.mem_append_left _ (List.mem_of_getElem? (l := tables_1_1) (i := 122) rfl)) rfl
theorem tw_123 : Cond.fieldLink "PlaceTimePlans$Line" 28 "PlaceTimePlans$Line" "gaps" "[I" ∈ sx_T := sx_inT (List.mem_append_left _ (List.mem_of_getElem? (l := tables_1_1) (i := 123) rfl)) rfl
theorem tw_124 : Cond.fieldLink "PlaceTimePlans$Line" 31 "PlaceTimePlans$Line" "mosts" "[I" ∈ sx_T := sx_inT (List.mem_append_left _ (List.mem_of_getElem? (l := tables_1_1) (i := 124) rfl)) rfl
theorem tw_125 : Cond.fieldLink "PlaceTimePlans" 128 "PlaceTimePlans$Line" "mosts" "[I" ∈ sx_T := sx_inT (List.mem_append_left _ (List.mem_of_getElem? (l := tables_1_1) (i := 125) rfl)) rfl
theorem tw_126 : Cond.fieldLink "PlaceTimePlans$Rules" 152 "PlaceTimePlans$Line" "mosts" "[I" ∈ sx_T := sx_inT (List.mem_append_left _ (List.mem_of_getElem? (l := tables_1_1) (i := 126) rfl)) rfl
theorem tw_127 : Cond.fieldLink "PlaceTimePlans$Line" 34 "PlaceTimePlans$Line" "barWorks" "[I" ∈ sx_T := sx_inT (List.mem_append_left _ (List.mem_of_getElem? (l := tables_1_1) (i := 127) rfl)) rfl
theorem tw_128 : Cond.fieldLink "PlaceTimePlans$Rules" 87 "PlaceTimePlans$Line" "barWorks" "[I" ∈ sx_T := sx_inT (List.mem_append_left _ (List.mem_of_getElem? (l := tables_1_1) (i := 128) rfl)) rfl
theorem tw_129 : Cond.fieldLink "PlaceTimePlans$Line" 37 "PlaceTimePlans$Line" "barPlaces" "[I" ∈ sx_T := sx_inT (List.mem_append_left _ (List.mem_of_getElem? (l := tables_1_1) (i := 129) rfl)) rfl
theorem tw_130 : Cond.fieldLink "PlaceTimePlans$Rules" 91 "PlaceTimePlans$Line" "barPlaces" "[I" ∈ sx_T := sx_inT (List.mem_append_left _ (List.mem_of_getElem? (l := tables_1_1) (i := 130) rfl)) rfl
theorem tw_131 : Cond.fieldLink "PlaceTimePlans$Line" 40 "PlaceTimePlans$Line" "barDays" "[I" ∈ sx_T := sx_inT (List.mem_append_left _ (List.mem_of_getElem? (l := tables_1_1) (i := 131) rfl)) rfl
theorem tw_132 : Cond.fieldLink "PlaceTimePlans$Rules" 97 "PlaceTimePlans$Line" "barDays" "[I" ∈ sx_T := sx_inT (List.mem_append_left _ (List.mem_of_getElem? (l := tables_1_1) (i := 132) rfl)) rfl
theorem tw_133 : Cond.fieldLink "PlaceTimePlans$Line" 44 "PlaceTimePlans$Line" "crewCount" "I" ∈ sx_T := sx_inT (List.mem_append_left _ (List.mem_of_getElem? (l := tables_1_1) (i := 133) rfl)) rfl
theorem tw_134 : Cond.fieldLink "PlaceTimePlans" 65 "PlaceTimePlans$Line" "crewCount" "I" ∈ sx_T := sx_inT (List.mem_append_left _ (List.mem_of_getElem? (l := tables_1_1) (i := 134) rfl)) rfl
theorem tw_135 : Cond.fieldLink "PlaceTimePlans$Line" 48 "PlaceTimePlans$Line" "workCount" "I" ∈ sx_T := sx_inT (List.mem_append_left _ (List.mem_of_getElem? (l := tables_1_1) (i := 135) rfl)) rfl
theorem tw_136 : Cond.fieldLink "PlaceTimePlans$Search" 67 "PlaceTimePlans$Line" "workCount" "I" ∈ sx_T := sx_inT (List.mem_append_left _ (List.mem_of_getElem? (l := tables_1_1) (i := 136) rfl)) rfl
theorem tw_137 : Cond.fieldLink "PlaceTimePlans$Weather" 27 "PlaceTimePlans$Line" "workCount" "I" ∈ sx_T := sx_inT (List.mem_append_left _ (List.mem_of_getElem? (l := tables_1_1) (i := 137) rfl)) rfl
theorem tw_138 : Cond.fieldLink "PlaceTimePlans" 80 "PlaceTimePlans$Line" "workCount" "I" ∈ sx_T := sx_inT (List.mem_append_left _ (List.mem_of_getElem? (l := tables_1_1) (i := 138) rfl)) rfl
theorem tw_139 : Cond.fieldLink "PlaceTimePlans$Line" 75 "PlaceTimePlans$Line" "barCount" "I" ∈ sx_T := sx_inT (List.mem_append_left _ (List.mem_of_getElem? (l := tables_1_1) (i := 139) rfl)) rfl
theorem tw_140 : Cond.fieldLink "PlaceTimePlans$Rules" 84 "PlaceTimePlans$Line" "barCount" "I" ∈ sx_T := sx_inT (List.mem_append_left _ (List.mem_of_getElem? (l := tables_1_1) (i := 140) rfl)) rfl
theorem tw_141 : Cond.fieldLink "PlaceTimePlans" 109 "PlaceTimePlans$Line" "barCount" "I" ∈ sx_T := sx_inT (List.mem_append_left _ (List.mem_of_getElem? (l := tables_1_1) (i := 141) rfl)) rfl
theorem tw_165 : Cond.classLink "PlaceTimePlans" 16 "PlaceTimePlans$Rules" ∈ sx_T := sx_inT (List.mem_append_left _ (List.mem_of_getElem? (l := tables_1_1) (i := 165) rfl)) rfl
theorem tw_166 : Cond.instantiable "PlaceTimePlans$Rules" 3 ∈ sx_T := sx_inT (List.mem_append_left _ (List.mem_of_getElem? (l := tables_1_1) (i := 166) rfl)) rfl
theorem tw_167 : Cond.methodLink "PlaceTimePlans" 18 ⟨"PlaceTimePlans$Rules", "<init>", "(LPlaceTimePlans$Line;)V"⟩ ∈ sx_T := sx_inT (List.mem_append_left _ (List.mem_of_getElem? (l := tables_1_1) (i := 167) rfl)) rfl
theorem tw_168 : Cond.instanceMethod ⟨"PlaceTimePlans$Rules", "<init>", "(LPlaceTimePlans$Line;)V"⟩ ∈ sx_T := sx_inT (List.mem_append_left _ (List.mem_of_getElem? (l := tables_1_1) (i := 168) rfl)) rfl
theorem tw_169 : Cond.code ⟨"PlaceTimePlans$Rules", "<init>", "(LPlaceTimePlans$Line;)V"⟩ prog_5_method_1_code 2 none ∈ sx_T := sx_inT (List.mem_append_left _ (List.mem_of_getElem? (l := tables_1_1) (i := 169) rfl)) rfl
theorem tw_170 : Cond.methodLink "PlaceTimePlans$Rules" 3 ⟨"java/lang/Object", "<init>", "()V"⟩ ∈ sx_T := sx_inT (List.mem_append_left _ (List.mem_of_getElem? (l := tables_1_1) (i := 170) rfl)) rfl
theorem tw_171 : Cond.classLink "PlaceTimePlans$Rules" 9 "PlaceTimePlans$Window" ∈ sx_T := sx_inT (List.mem_append_left _ (List.mem_of_getElem? (l := tables_1_1) (i := 171) rfl)) rfl
theorem tw_172 : Cond.instantiable "PlaceTimePlans$Window" 2 ∈ sx_T := sx_inT (List.mem_append_left _ (List.mem_of_getElem? (l := tables_1_1) (i := 172) rfl)) rfl
theorem tw_173 : Cond.methodLinkNest "PlaceTimePlans$Rules" 11 ⟨"PlaceTimePlans$Window", "<init>", "()V"⟩ "PlaceTimePlans" ∈ sx_N := sx_inN (List.mem_append_left _ (List.mem_of_getElem? (l := tables_1_1) (i := 173) rfl)) rfl
theorem tw_174 : Cond.instanceMethod ⟨"PlaceTimePlans$Window", "<init>", "()V"⟩ ∈ sx_T := sx_inT (List.mem_append_left _ (List.mem_of_getElem? (l := tables_1_1) (i := 174) rfl)) rfl
theorem tw_175 : Cond.code ⟨"PlaceTimePlans$Window", "<init>", "()V"⟩ prog_8_method_1_code 1 none ∈ sx_T := sx_inT (List.mem_append_left _ (List.mem_of_getElem? (l := tables_1_1) (i := 175) rfl)) rfl
theorem tw_176 : Cond.methodLink "PlaceTimePlans$Window" 1 ⟨"java/lang/Object", "<init>", "()V"⟩ ∈ sx_T := sx_inT (List.mem_append_left _ (List.mem_of_getElem? (l := tables_1_1) (i := 176) rfl)) rfl
theorem tw_177 : Cond.fieldLink "PlaceTimePlans$Window" 7 "PlaceTimePlans$Window" "least" "I" ∈ sx_T := sx_inT (List.mem_append_left _ (List.mem_of_getElem? (l := tables_1_1) (i := 177) rfl)) rfl
theorem tw_178 : Cond.fieldLink "PlaceTimePlans$Window" 13 "PlaceTimePlans$Window" "greatest" "I" ∈ sx_T := sx_inT (List.mem_append_left _ (List.mem_of_getElem? (l := tables_1_1) (i := 178) rfl)) rfl
theorem tw_184 : Cond.fieldLink "PlaceTimePlans$Rules" 18 "PlaceTimePlans$Rules" "line" "LPlaceTimePlans$Line;" ∈ sx_T := sx_inT (List.mem_append_left _ (List.mem_of_getElem? (l := tables_1_1) (i := 184) rfl)) rfl
theorem tw_185 : Cond.fieldLink "PlaceTimePlans$Rules" 28 "PlaceTimePlans$Rules" "days" "LPlaceTimePlans$Days;" ∈ sx_T := sx_inT (List.mem_append_left _ (List.mem_of_getElem? (l := tables_1_1) (i := 185) rfl)) rfl
theorem tw_186 : Cond.fieldLink "PlaceTimePlans$Rules" 12 "PlaceTimePlans$Rules" "alone" "LPlaceTimePlans$Window;" ∈ sx_T := sx_inT (List.mem_append_left _ (List.mem_of_getElem? (l := tables_1_1) (i := 186) rfl)) rfl
theorem tw_194 : Cond.classLink "PlaceTimePlans" 25 "PlaceTimePlans$Placing" ∈ sx_T := sx_inT (List.mem_append_left _ (List.mem_of_getElem? (l := tables_1_1) (i := 194) rfl)) rfl
theorem tw_195 : Cond.instantiable "PlaceTimePlans$Placing" 2 ∈ sx_T := sx_inT (List.mem_append_left _ (List.mem_of_getElem? (l := tables_1_1) (i := 195) rfl)) rfl
theorem tw_196 : Cond.methodLinkNest "PlaceTimePlans" 27 ⟨"PlaceTimePlans$Placing", "<init>", "()V"⟩ "PlaceTimePlans" ∈ sx_N := sx_inN (List.mem_append_left _ (List.mem_of_getElem? (l := tables_1_1) (i := 196) rfl)) rfl
theorem tw_197 : Cond.instanceMethod ⟨"PlaceTimePlans$Placing", "<init>", "()V"⟩ ∈ sx_T := sx_inT (List.mem_append_left _ (List.mem_of_getElem? (l := tables_1_1) (i := 197) rfl)) rfl
theorem tw_198 : Cond.code ⟨"PlaceTimePlans$Placing", "<init>", "()V"⟩ prog_4_method_1_code 1 none ∈ sx_T := sx_inT (List.mem_append_left _ (List.mem_of_getElem? (l := tables_1_1) (i := 198) rfl)) rfl
theorem tw_199 : Cond.methodLink "PlaceTimePlans$Placing" 3 ⟨"java/lang/Object", "<init>", "()V"⟩ ∈ sx_T := sx_inT (List.mem_append_left _ (List.mem_of_getElem? (l := tables_1_1) (i := 199) rfl)) rfl
theorem tw_200 : Cond.fieldLink "PlaceTimePlans$Placing" 9 "PlaceTimePlans$Placing" "starts" "[I" ∈ sx_T := sx_inT (List.mem_append_left _ (List.mem_of_getElem? (l := tables_1_1) (i := 200) rfl)) rfl
theorem tw_201 : Cond.fieldLink "PlaceTimePlans$Search" 81 "PlaceTimePlans$Placing" "starts" "[I" ∈ sx_T := sx_inT (List.mem_append_left _ (List.mem_of_getElem? (l := tables_1_1) (i := 201) rfl)) rfl
theorem tw_202 : Cond.fieldLink "PlaceTimePlans$Weather" 66 "PlaceTimePlans$Placing" "starts" "[I" ∈ sx_T := sx_inT (List.mem_append_left _ (List.mem_of_getElem? (l := tables_1_1) (i := 202) rfl)) rfl
theorem tw_203 : Cond.fieldLink "PlaceTimePlans$Rules" 137 "PlaceTimePlans$Placing" "starts" "[I" ∈ sx_T := sx_inT (List.mem_append_left _ (List.mem_of_getElem? (l := tables_1_1) (i := 203) rfl)) rfl
theorem tw_204 : Cond.fieldLink "PlaceTimePlans$Line" 109 "PlaceTimePlans$Placing" "starts" "[I" ∈ sx_T := sx_inT (List.mem_append_left _ (List.mem_of_getElem? (l := tables_1_1) (i := 204) rfl)) rfl
theorem tw_205 : Cond.fieldLink "PlaceTimePlans" 159 "PlaceTimePlans$Placing" "starts" "[I" ∈ sx_T := sx_inT (List.mem_append_left _ (List.mem_of_getElem? (l := tables_1_1) (i := 205) rfl)) rfl
theorem tw_206 : Cond.fieldLink "PlaceTimePlans$Placing" 15 "PlaceTimePlans$Placing" "ways" "[I" ∈ sx_T := sx_inT (List.mem_append_left _ (List.mem_of_getElem? (l := tables_1_1) (i := 206) rfl)) rfl
theorem tw_207 : Cond.fieldLink "PlaceTimePlans$Search" 84 "PlaceTimePlans$Placing" "ways" "[I" ∈ sx_T := sx_inT (List.mem_append_left _ (List.mem_of_getElem? (l := tables_1_1) (i := 207) rfl)) rfl
theorem tw_208 : Cond.fieldLink "PlaceTimePlans$Line" 97 "PlaceTimePlans$Placing" "ways" "[I" ∈ sx_T := sx_inT (List.mem_append_left _ (List.mem_of_getElem? (l := tables_1_1) (i := 208) rfl)) rfl
theorem tw_209 : Cond.fieldLink "PlaceTimePlans" 166 "PlaceTimePlans$Placing" "ways" "[I" ∈ sx_T := sx_inT (List.mem_append_left _ (List.mem_of_getElem? (l := tables_1_1) (i := 209) rfl)) rfl
theorem tw_215 : Cond.classLink "PlaceTimePlans" 32 "PlaceTimePlans$Search" ∈ sx_T := sx_inT (List.mem_append_left _ (List.mem_of_getElem? (l := tables_1_1) (i := 215) rfl)) rfl
theorem tw_216 : Cond.instantiable "PlaceTimePlans$Search" 15 ∈ sx_T := sx_inT (List.mem_append_left _ (List.mem_of_getElem? (l := tables_1_1) (i := 216) rfl)) rfl
theorem tw_217 : Cond.methodLink "PlaceTimePlans" 34 ⟨"PlaceTimePlans$Search", "<init>", "(LPlaceTimePlans$Line;LPlaceTimePlans$Rules;LPlaceTimePlans$Placing;)V"⟩ ∈ sx_T := sx_inT (List.mem_append_left _ (List.mem_of_getElem? (l := tables_1_1) (i := 217) rfl)) rfl
theorem tw_218 : Cond.instanceMethod ⟨"PlaceTimePlans$Search", "<init>", "(LPlaceTimePlans$Line;LPlaceTimePlans$Rules;LPlaceTimePlans$Placing;)V"⟩ ∈ sx_T := sx_inT (List.mem_append_left _ (List.mem_of_getElem? (l := tables_1_1) (i := 218) rfl)) rfl
theorem tw_219 : Cond.code ⟨"PlaceTimePlans$Search", "<init>", "(LPlaceTimePlans$Line;LPlaceTimePlans$Rules;LPlaceTimePlans$Placing;)V"⟩ prog_6_method_1_code 5 none ∈ sx_T := sx_inT (List.mem_append_left _ (List.mem_of_getElem? (l := tables_1_1) (i := 219) rfl)) rfl
theorem tw_220 : Cond.methodLink "PlaceTimePlans$Search" 3 ⟨"java/lang/Object", "<init>", "()V"⟩ ∈ sx_T := sx_inT (List.mem_append_left _ (List.mem_of_getElem? (l := tables_1_1) (i := 220) rfl)) rfl
theorem tw_221 : Cond.classLink "PlaceTimePlans$Search" 9 "PlaceTimePlans$Placing" ∈ sx_T := sx_inT (List.mem_append_left _ (List.mem_of_getElem? (l := tables_1_1) (i := 221) rfl)) rfl
theorem tw_222 : Cond.methodLinkNest "PlaceTimePlans$Search" 11 ⟨"PlaceTimePlans$Placing", "<init>", "()V"⟩ "PlaceTimePlans" ∈ sx_N := sx_inN (List.mem_append_left _ (List.mem_of_getElem? (l := tables_1_1) (i := 222) rfl)) rfl
theorem tw_223 : Cond.classLink "PlaceTimePlans$Search" 21 "PlaceTimePlans$Window" ∈ sx_T := sx_inT (List.mem_append_left _ (List.mem_of_getElem? (l := tables_1_1) (i := 223) rfl)) rfl
theorem tw_224 : Cond.arrayOver (FieldType.object "PlaceTimePlans$Window") ∈ sx_N := sx_inN (List.mem_append_left _ (List.mem_of_getElem? (l := tables_1_1) (i := 224) rfl)) rfl
theorem tw_225 : Cond.methodLinkNest "PlaceTimePlans$Search" 45 ⟨"PlaceTimePlans$Window", "<init>", "()V"⟩ "PlaceTimePlans" ∈ sx_N := sx_inN (List.mem_append_left _ (List.mem_of_getElem? (l := tables_1_1) (i := 225) rfl)) rfl
theorem tw_226 : Cond.fieldLink "PlaceTimePlans$Search" 34 "PlaceTimePlans$Search" "line" "LPlaceTimePlans$Line;" ∈ sx_T := sx_inT (List.mem_append_left _ (List.mem_of_getElem? (l := tables_1_1) (i := 226) rfl)) rfl
theorem tw_227 : Cond.fieldLink "PlaceTimePlans$Search" 38 "PlaceTimePlans$Search" "rules" "LPlaceTimePlans$Rules;" ∈ sx_T := sx_inT (List.mem_append_left _ (List.mem_of_getElem? (l := tables_1_1) (i := 227) rfl)) rfl
theorem tw_228 : Cond.fieldLink "PlaceTimePlans$Search" 42 "PlaceTimePlans$Search" "home" "LPlaceTimePlans$Placing;" ∈ sx_T := sx_inT (List.mem_append_left _ (List.mem_of_getElem? (l := tables_1_1) (i := 228) rfl)) rfl
theorem tw_229 : Cond.fieldLink "PlaceTimePlans$Search" 12 "PlaceTimePlans$Search" "now" "LPlaceTimePlans$Placing;" ∈ sx_T := sx_inT (List.mem_append_left _ (List.mem_of_getElem? (l := tables_1_1) (i := 229) rfl)) rfl
theorem tw_230 : Cond.fieldLink "PlaceTimePlans$Search" 18 "PlaceTimePlans$Search" "best" "LPlaceTimePlans$Placing;" ∈ sx_T := sx_inT (List.mem_append_left _ (List.mem_of_getElem? (l := tables_1_1) (i := 230) rfl)) rfl
theorem tw_231 : Cond.fieldLink "PlaceTimePlans" 242 "PlaceTimePlans$Search" "best" "LPlaceTimePlans$Placing;" ∈ sx_T := sx_inT (List.mem_append_left _ (List.mem_of_getElem? (l := tables_1_1) (i := 231) rfl)) rfl
theorem tw_232 : Cond.fieldLink "PlaceTimePlans$Search" 23 "PlaceTimePlans$Search" "windows" "[LPlaceTimePlans$Window;" ∈ sx_T := sx_inT (List.mem_append_left _ (List.mem_of_getElem? (l := tables_1_1) (i := 232) rfl)) rfl
theorem tw_233 : Cond.fieldLink "PlaceTimePlans$Search" 27 "PlaceTimePlans$Search" "ends" "[I" ∈ sx_T := sx_inT (List.mem_append_left _ (List.mem_of_getElem? (l := tables_1_1) (i := 233) rfl)) rfl
theorem tw_234 : Cond.fieldLink "PlaceTimePlans$Search" 31 "PlaceTimePlans$Search" "moves" "[I" ∈ sx_T := sx_inT (List.mem_append_left _ (List.mem_of_getElem? (l := tables_1_1) (i := 234) rfl)) rfl
theorem tw_235 : Cond.fieldLink "PlaceTimePlans$Search" 46 "PlaceTimePlans$Search" "again" "Z" ∈ sx_T := sx_inT (List.mem_append_left _ (List.mem_of_getElem? (l := tables_1_1) (i := 235) rfl)) rfl
theorem tw_236 : Cond.fieldLink "PlaceTimePlans$Search" 50 "PlaceTimePlans$Search" "granted" "I" ∈ sx_T := sx_inT (List.mem_append_left _ (List.mem_of_getElem? (l := tables_1_1) (i := 236) rfl)) rfl
theorem tw_237 : Cond.fieldLink "PlaceTimePlans$Search" 54 "PlaceTimePlans$Search" "done" "I" ∈ sx_T := sx_inT (List.mem_append_left _ (List.mem_of_getElem? (l := tables_1_1) (i := 237) rfl)) rfl
theorem tw_238 : Cond.fieldLink "PlaceTimePlans" 233 "PlaceTimePlans$Search" "done" "I" ∈ sx_T := sx_inT (List.mem_append_left _ (List.mem_of_getElem? (l := tables_1_1) (i := 238) rfl)) rfl
theorem tw_239 : Cond.fieldLink "PlaceTimePlans$Search" 57 "PlaceTimePlans$Search" "cutOff" "Z" ∈ sx_T := sx_inT (List.mem_append_left _ (List.mem_of_getElem? (l := tables_1_1) (i := 239) rfl)) rfl
theorem tw_240 : Cond.fieldLink "PlaceTimePlans" 236 "PlaceTimePlans$Search" "cutOff" "Z" ∈ sx_T := sx_inT (List.mem_append_right _ (List.mem_append_left _ (List.mem_of_getElem? (l := tables_1_2) (i := 0) rfl))) rfl
theorem tw_241 : Cond.fieldLink "PlaceTimePlans$Search" 60 "PlaceTimePlans$Search" "found" "Z" ∈ sx_T := sx_inT (List.mem_append_right _ (List.mem_append_left _ (List.mem_of_getElem? (l := tables_1_2) (i := 1) rfl))) rfl
theorem tw_242 : Cond.fieldLink "PlaceTimePlans" 239 "PlaceTimePlans$Search" "found" "Z" ∈ sx_T := sx_inT (List.mem_append_right _ (List.mem_append_left _ (List.mem_of_getElem? (l := tables_1_2) (i := 2) rfl))) rfl
theorem tw_243 : Cond.fieldLink "PlaceTimePlans$Search" 132 "PlaceTimePlans$Search" "bestEnd" "I" ∈ sx_T := sx_inT (List.mem_append_right _ (List.mem_append_left _ (List.mem_of_getElem? (l := tables_1_2) (i := 3) rfl))) rfl
theorem tw_244 : Cond.fieldLink "PlaceTimePlans" 251 "PlaceTimePlans$Search" "bestEnd" "I" ∈ sx_T := sx_inT (List.mem_append_right _ (List.mem_append_left _ (List.mem_of_getElem? (l := tables_1_2) (i := 4) rfl))) rfl
theorem tw_245 : Cond.fieldLink "PlaceTimePlans$Search" 129 "PlaceTimePlans$Search" "bestMoves" "I" ∈ sx_T := sx_inT (List.mem_append_right _ (List.mem_append_left _ (List.mem_of_getElem? (l := tables_1_2) (i := 5) rfl))) rfl
theorem tw_246 : Cond.fieldLink "PlaceTimePlans" 213 "PlaceTimePlans$Search" "bestMoves" "I" ∈ sx_T := sx_inT (List.mem_append_right _ (List.mem_append_left _ (List.mem_of_getElem? (l := tables_1_2) (i := 6) rfl))) rfl
theorem tw_278 : Cond.classLink "PlaceTimePlans" 41 "PlaceTimePlans$Window" ∈ sx_T := sx_inT (List.mem_append_right _ (List.mem_append_left _ (List.mem_of_getElem? (l := tables_1_2) (i := 38) rfl))) rfl
theorem tw_279 : Cond.methodLinkNest "PlaceTimePlans" 43 ⟨"PlaceTimePlans$Window", "<init>", "()V"⟩ "PlaceTimePlans" ∈ sx_N := sx_inN (List.mem_append_right _ (List.mem_append_left _ (List.mem_of_getElem? (l := tables_1_2) (i := 39) rfl))) rfl
theorem tw_280 : Cond.classLink "PlaceTimePlans" 48 "PlaceTimePlans$Weather" ∈ sx_T := sx_inT (List.mem_append_right _ (List.mem_append_left _ (List.mem_of_getElem? (l := tables_1_2) (i := 40) rfl))) rfl
theorem tw_281 : Cond.instantiable "PlaceTimePlans$Weather" 4 ∈ sx_T := sx_inT (List.mem_append_right _ (List.mem_append_left _ (List.mem_of_getElem? (l := tables_1_2) (i := 41) rfl))) rfl
theorem tw_282 : Cond.methodLink "PlaceTimePlans" 50 ⟨"PlaceTimePlans$Weather", "<init>", "(LPlaceTimePlans$Line;LPlaceTimePlans$Placing;)V"⟩ ∈ sx_T := sx_inT (List.mem_append_right _ (List.mem_append_left _ (List.mem_of_getElem? (l := tables_1_2) (i := 42) rfl))) rfl
theorem tw_283 : Cond.instanceMethod ⟨"PlaceTimePlans$Weather", "<init>", "(LPlaceTimePlans$Line;LPlaceTimePlans$Placing;)V"⟩ ∈ sx_T := sx_inT (List.mem_append_right _ (List.mem_append_left _ (List.mem_of_getElem? (l := tables_1_2) (i := 43) rfl))) rfl
theorem tw_284 : Cond.code ⟨"PlaceTimePlans$Weather", "<init>", "(LPlaceTimePlans$Line;LPlaceTimePlans$Placing;)V"⟩ prog_7_method_1_code 3 none ∈ sx_T := sx_inT (List.mem_append_right _ (List.mem_append_left _ (List.mem_of_getElem? (l := tables_1_2) (i := 44) rfl))) rfl
theorem tw_285 : Cond.methodLink "PlaceTimePlans$Weather" 3 ⟨"java/lang/Object", "<init>", "()V"⟩ ∈ sx_T := sx_inT (List.mem_append_right _ (List.mem_append_left _ (List.mem_of_getElem? (l := tables_1_2) (i := 45) rfl))) rfl
theorem tw_286 : Cond.fieldLink "PlaceTimePlans$Weather" 15 "PlaceTimePlans$Weather" "line" "LPlaceTimePlans$Line;" ∈ sx_T := sx_inT (List.mem_append_right _ (List.mem_append_left _ (List.mem_of_getElem? (l := tables_1_2) (i := 46) rfl))) rfl
theorem tw_287 : Cond.fieldLink "PlaceTimePlans$Weather" 19 "PlaceTimePlans$Weather" "plan" "LPlaceTimePlans$Placing;" ∈ sx_T := sx_inT (List.mem_append_right _ (List.mem_append_left _ (List.mem_of_getElem? (l := tables_1_2) (i := 47) rfl))) rfl
theorem tw_288 : Cond.fieldLink "PlaceTimePlans$Weather" 9 "PlaceTimePlans$Weather" "daysLeft" "[I" ∈ sx_T := sx_inT (List.mem_append_right _ (List.mem_append_left _ (List.mem_of_getElem? (l := tables_1_2) (i := 48) rfl))) rfl
theorem tw_289 : Cond.fieldLink "PlaceTimePlans$Weather" 23 "PlaceTimePlans$Weather" "state" "I" ∈ sx_T := sx_inT (List.mem_append_right _ (List.mem_append_left _ (List.mem_of_getElem? (l := tables_1_2) (i := 49) rfl))) rfl
theorem tw_299 : Cond.fieldLink "PlaceTimePlans" 10 "PlaceTimePlans" "line" "LPlaceTimePlans$Line;" ∈ sx_T := sx_inT (List.mem_append_right _ (List.mem_append_left _ (List.mem_of_getElem? (l := tables_1_2) (i := 59) rfl))) rfl
theorem tw_300 : Cond.fieldLink "PlaceTimePlans" 21 "PlaceTimePlans" "rules" "LPlaceTimePlans$Rules;" ∈ sx_T := sx_inT (List.mem_append_right _ (List.mem_append_left _ (List.mem_of_getElem? (l := tables_1_2) (i := 60) rfl))) rfl
theorem tw_301 : Cond.fieldLink "PlaceTimePlans" 28 "PlaceTimePlans" "plan" "LPlaceTimePlans$Placing;" ∈ sx_T := sx_inT (List.mem_append_right _ (List.mem_append_left _ (List.mem_of_getElem? (l := tables_1_2) (i := 61) rfl))) rfl
theorem tw_302 : Cond.fieldLink "PlaceTimePlans" 37 "PlaceTimePlans" "search" "LPlaceTimePlans$Search;" ∈ sx_T := sx_inT (List.mem_append_right _ (List.mem_append_left _ (List.mem_of_getElem? (l := tables_1_2) (i := 62) rfl))) rfl
theorem tw_303 : Cond.fieldLink "PlaceTimePlans" 44 "PlaceTimePlans" "room" "LPlaceTimePlans$Window;" ∈ sx_T := sx_inT (List.mem_append_right _ (List.mem_append_left _ (List.mem_of_getElem? (l := tables_1_2) (i := 63) rfl))) rfl
theorem tw_304 : Cond.fieldLink "PlaceTimePlans" 53 "PlaceTimePlans" "weather" "LPlaceTimePlans$Weather;" ∈ sx_T := sx_inT (List.mem_append_right _ (List.mem_append_left _ (List.mem_of_getElem? (l := tables_1_2) (i := 64) rfl))) rfl
theorem tw_305 : Cond.fieldLink "PlaceTimePlans" 57 "PlaceTimePlans" "movedWorks" "[Z" ∈ sx_T := sx_inT (List.mem_append_right _ (List.mem_append_left _ (List.mem_of_getElem? (l := tables_1_2) (i := 65) rfl))) rfl
theorem tw_306 : Cond.fieldLink "PlaceTimePlans" 186 "PlaceTimePlans" "planAtHand" "Z" ∈ sx_T := sx_inT (List.mem_append_right _ (List.mem_append_left _ (List.mem_of_getElem? (l := tables_1_2) (i := 66) rfl))) rfl
theorem tw_307 : Cond.fieldLink "PlaceTimePlans" 146 "PlaceTimePlans" "planEnd" "I" ∈ sx_T := sx_inT (List.mem_append_right _ (List.mem_append_left _ (List.mem_of_getElem? (l := tables_1_2) (i := 67) rfl))) rfl
theorem tw_308 : Cond.fieldLink "PlaceTimePlans" 149 "PlaceTimePlans" "lastProved" "Z" ∈ sx_T := sx_inT (List.mem_append_right _ (List.mem_append_left _ (List.mem_of_getElem? (l := tables_1_2) (i := 68) rfl))) rfl
theorem tw_309 : Cond.fieldLink "PlaceTimePlans" 153 "PlaceTimePlans" "lastTried" "I" ∈ sx_T := sx_inT (List.mem_append_right _ (List.mem_append_left _ (List.mem_of_getElem? (l := tables_1_2) (i := 69) rfl))) rfl
theorem tw_333 : Cond.methodLink "PlaceTimePlansLaw" 13 ⟨"PlaceTimePlans", "crew", "(I)I"⟩ ∈ sx_T := sx_inT (List.mem_append_right _ (List.mem_append_left _ (List.mem_of_getElem? (l := tables_1_2) (i := 93) rfl))) rfl
theorem tw_334 : Cond.instanceMethod ⟨"PlaceTimePlans", "crew", "(I)I"⟩ ∈ sx_T := sx_inT (List.mem_append_right _ (List.mem_append_left _ (List.mem_of_getElem? (l := tables_1_2) (i := 94) rfl))) rfl
theorem tw_335 : Cond.selects "PlaceTimePlans" ⟨"PlaceTimePlans", "crew", "(I)I"⟩ ⟨"PlaceTimePlans", "crew", "(I)I"⟩ ∈ sx_T := sx_inT (List.mem_append_right _ (List.mem_append_left _ (List.mem_of_getElem? (l := tables_1_2) (i := 95) rfl))) rfl
theorem tw_336 : Cond.code ⟨"PlaceTimePlans", "crew", "(I)I"⟩ prog_1_method_2_code 3 (Option.some FieldType.int) ∈ sx_T := sx_inT (List.mem_append_right _ (List.mem_append_left _ (List.mem_of_getElem? (l := tables_1_2) (i := 96) rfl))) rfl
theorem tw_337 : Cond.methodLink "PlaceTimePlans" 61 ⟨"PlaceTimePlans", "isKind", "(I)Z"⟩ ∈ sx_T := sx_inT (List.mem_append_right _ (List.mem_append_left _ (List.mem_of_getElem? (l := tables_1_2) (i := 97) rfl))) rfl
theorem tw_338 : Cond.static ⟨"PlaceTimePlans", "isKind", "(I)Z"⟩ ∈ sx_T := sx_inT (List.mem_append_right _ (List.mem_append_left _ (List.mem_of_getElem? (l := tables_1_2) (i := 98) rfl))) rfl
theorem tw_339 : Cond.code ⟨"PlaceTimePlans", "isKind", "(I)Z"⟩ prog_1_method_29_code 1 (Option.some FieldType.boolean) ∈ sx_T := sx_inT (List.mem_append_right _ (List.mem_append_left _ (List.mem_of_getElem? (l := tables_1_2) (i := 99) rfl))) rfl
theorem tw_340 : Cond.methodLink "PlaceTimePlans" 76 ⟨"PlaceTimePlans", "isWithin", "(III)Z"⟩ ∈ sx_T := sx_inT (List.mem_append_right _ (List.mem_append_left _ (List.mem_of_getElem? (l := tables_1_2) (i := 100) rfl))) rfl
theorem tw_341 : Cond.static ⟨"PlaceTimePlans", "isWithin", "(III)Z"⟩ ∈ sx_T := sx_inT (List.mem_append_right _ (List.mem_append_left _ (List.mem_of_getElem? (l := tables_1_2) (i := 101) rfl))) rfl
theorem tw_342 : Cond.code ⟨"PlaceTimePlans", "isWithin", "(III)Z"⟩ prog_1_method_30_code 3 (Option.some FieldType.boolean) ∈ sx_T := sx_inT (List.mem_append_right _ (List.mem_append_left _ (List.mem_of_getElem? (l := tables_1_2) (i := 102) rfl))) rfl
theorem tw_343 : Cond.methodLink "PlaceTimePlans" 69 ⟨"PlaceTimePlans$Line", "addCrew", "(I)I"⟩ ∈ sx_T := sx_inT (List.mem_append_right _ (List.mem_append_left _ (List.mem_of_getElem? (l := tables_1_2) (i := 103) rfl))) rfl
theorem tw_344 : Cond.instanceMethod ⟨"PlaceTimePlans$Line", "addCrew", "(I)I"⟩ ∈ sx_T := sx_inT (List.mem_append_right _ (List.mem_append_left _ (List.mem_of_getElem? (l := tables_1_2) (i := 104) rfl))) rfl
theorem tw_345 : Cond.selects "PlaceTimePlans$Line" ⟨"PlaceTimePlans$Line", "addCrew", "(I)I"⟩ ⟨"PlaceTimePlans$Line", "addCrew", "(I)I"⟩ ∈ sx_T := sx_inT (List.mem_append_right _ (List.mem_append_left _ (List.mem_of_getElem? (l := tables_1_2) (i := 105) rfl))) rfl
theorem tw_346 : Cond.code ⟨"PlaceTimePlans$Line", "addCrew", "(I)I"⟩ prog_3_method_2_code 2 (Option.some FieldType.int) ∈ sx_T := sx_inT (List.mem_append_right _ (List.mem_append_left _ (List.mem_of_getElem? (l := tables_1_2) (i := 106) rfl))) rfl
theorem tw_347 : Cond.methodLink "PlaceTimePlans" 73 ⟨"PlaceTimePlans", "forgetPlan", "()V"⟩ ∈ sx_T := sx_inT (List.mem_append_right _ (List.mem_append_left _ (List.mem_of_getElem? (l := tables_1_2) (i := 107) rfl))) rfl
theorem tw_349 : Cond.instanceMethod ⟨"PlaceTimePlans", "forgetPlan", "()V"⟩ ∈ sx_T := sx_inT (List.mem_append_right _ (List.mem_append_left _ (List.mem_of_getElem? (l := tables_1_2) (i := 109) rfl))) rfl
theorem tw_350 : Cond.code ⟨"PlaceTimePlans", "forgetPlan", "()V"⟩ prog_1_method_31_code 2 none ∈ sx_T := sx_inT (List.mem_append_right _ (List.mem_append_left _ (List.mem_of_getElem? (l := tables_1_2) (i := 110) rfl))) rfl
theorem tw_351 : Cond.methodLink "PlaceTimePlansLaw" 18 ⟨"PlaceTimePlans", "work", "(IIIIZ)I"⟩ ∈ sx_T := sx_inT (List.mem_append_right _ (List.mem_append_left _ (List.mem_of_getElem? (l := tables_1_2) (i := 111) rfl))) rfl
theorem tw_352 : Cond.instanceMethod ⟨"PlaceTimePlans", "work", "(IIIIZ)I"⟩ ∈ sx_T := sx_inT (List.mem_append_right _ (List.mem_append_left _ (List.mem_of_getElem? (l := tables_1_2) (i := 112) rfl))) rfl
theorem tw_353 : Cond.selects "PlaceTimePlans" ⟨"PlaceTimePlans", "work", "(IIIIZ)I"⟩ ⟨"PlaceTimePlans", "work", "(IIIIZ)I"⟩ ∈ sx_T := sx_inT (List.mem_append_right _ (List.mem_append_left _ (List.mem_of_getElem? (l := tables_1_2) (i := 113) rfl))) rfl
theorem tw_354 : Cond.code ⟨"PlaceTimePlans", "work", "(IIIIZ)I"⟩ prog_1_method_3_code 9 (Option.some FieldType.int) ∈ sx_T := sx_inT (List.mem_append_right _ (List.mem_append_left _ (List.mem_of_getElem? (l := tables_1_2) (i := 114) rfl))) rfl
theorem tw_355 : Cond.methodLink "PlaceTimePlans" 83 ⟨"PlaceTimePlans$Line", "addWork", "(IIIIZ)I"⟩ ∈ sx_T := sx_inT (List.mem_append_right _ (List.mem_append_left _ (List.mem_of_getElem? (l := tables_1_2) (i := 115) rfl))) rfl
theorem tw_356 : Cond.instanceMethod ⟨"PlaceTimePlans$Line", "addWork", "(IIIIZ)I"⟩ ∈ sx_T := sx_inT (List.mem_append_right _ (List.mem_append_left _ (List.mem_of_getElem? (l := tables_1_2) (i := 116) rfl))) rfl
theorem tw_357 : Cond.selects "PlaceTimePlans$Line" ⟨"PlaceTimePlans$Line", "addWork", "(IIIIZ)I"⟩ ⟨"PlaceTimePlans$Line", "addWork", "(IIIIZ)I"⟩ ∈ sx_T := sx_inT (List.mem_append_right _ (List.mem_append_left _ (List.mem_of_getElem? (l := tables_1_2) (i := 117) rfl))) rfl
theorem tw_358 : Cond.code ⟨"PlaceTimePlans$Line", "addWork", "(IIIIZ)I"⟩ prog_3_method_3_code 7 (Option.some FieldType.int) ∈ sx_T := sx_inT (List.mem_append_right _ (List.mem_append_left _ (List.mem_of_getElem? (l := tables_1_2) (i := 118) rfl))) rfl
theorem tw_359 : Cond.methodLinkNest "PlaceTimePlans$Line" 51 ⟨"PlaceTimePlans", "isWithin", "(III)Z"⟩ "PlaceTimePlans" ∈ sx_N := sx_inN (List.mem_append_right _ (List.mem_append_left _ (List.mem_of_getElem? (l := tables_1_2) (i := 119) rfl))) rfl
theorem tw_360 : Cond.methodLink "PlaceTimePlans$Line" 71 ⟨"PlaceTimePlans$Work", "setSpeed", "(I)V"⟩ ∈ sx_T := sx_inT (List.mem_append_right _ (List.mem_append_left _ (List.mem_of_getElem? (l := tables_1_2) (i := 120) rfl))) rfl
theorem tw_361 : Cond.instanceMethod ⟨"PlaceTimePlans$Work", "setSpeed", "(I)V"⟩ ∈ sx_T := sx_inT (List.mem_append_right _ (List.mem_append_left _ (List.mem_of_getElem? (l := tables_1_2) (i := 121) rfl))) rfl
theorem tw_362 : Cond.selects "PlaceTimePlans$Work" ⟨"PlaceTimePlans$Work", "setSpeed", "(I)V"⟩ ⟨"PlaceTimePlans$Work", "setSpeed", "(I)V"⟩ ∈ sx_T := sx_inT (List.mem_append_right _ (List.mem_append_left _ (List.mem_of_getElem? (l := tables_1_2) (i := 122) rfl))) rfl
theorem tw_363 : Cond.code ⟨"PlaceTimePlans$Work", "setSpeed", "(I)V"⟩ prog_9_method_2_code 2 none ∈ sx_T := sx_inT (List.mem_append_right _ (List.mem_append_left _ (List.mem_of_getElem? (l := tables_1_2) (i := 123) rfl))) rfl
theorem tw_364 : Cond.methodLink "PlaceTimePlans$Work" 18 ⟨"java/lang/Math", "min", "(II)I"⟩ ∈ sx_T := sx_inT (List.mem_append_right _ (List.mem_append_left _ (List.mem_of_getElem? (l := tables_1_2) (i := 124) rfl))) rfl
theorem tw_365 : Cond.static ⟨"java/lang/Math", "min", "(II)I"⟩ ∈ sx_T := sx_inT (List.mem_append_right _ (List.mem_append_left _ (List.mem_of_getElem? (l := tables_1_2) (i := 125) rfl))) rfl
theorem tw_366 : Cond.code ⟨"java/lang/Math", "min", "(II)I"⟩ prog_12_method_69_code 2 (Option.some FieldType.int) ∈ sx_T := sx_inT (List.mem_append_right _ (List.mem_append_left _ (List.mem_of_getElem? (l := tables_1_2) (i := 126) rfl))) rfl
theorem tw_367 : Cond.methodLink "PlaceTimePlans$Work" 24 ⟨"java/lang/Math", "max", "(II)I"⟩ ∈ sx_T := sx_inT (List.mem_append_right _ (List.mem_append_left _ (List.mem_of_getElem? (l := tables_1_2) (i := 127) rfl))) rfl
theorem tw_368 : Cond.static ⟨"java/lang/Math", "max", "(II)I"⟩ ∈ sx_T := sx_inT (List.mem_append_right _ (List.mem_append_left _ (List.mem_of_getElem? (l := tables_1_2) (i := 128) rfl))) rfl
theorem tw_369 : Cond.code ⟨"java/lang/Math", "max", "(II)I"⟩ prog_12_method_65_code 2 (Option.some FieldType.int) ∈ sx_T := sx_inT (List.mem_append_right _ (List.mem_append_left _ (List.mem_of_getElem? (l := tables_1_2) (i := 129) rfl))) rfl
theorem tw_370 : Cond.methodLink "PlaceTimePlansLaw" 23 ⟨"PlaceTimePlans", "after", "(III)Z"⟩ ∈ sx_T := sx_inT (List.mem_append_right _ (List.mem_append_left _ (List.mem_of_getElem? (l := tables_1_2) (i := 130) rfl))) rfl
theorem tw_371 : Cond.instanceMethod ⟨"PlaceTimePlans", "after", "(III)Z"⟩ ∈ sx_T := sx_inT (List.mem_append_right _ (List.mem_append_left _ (List.mem_of_getElem? (l := tables_1_2) (i := 131) rfl))) rfl
theorem tw_372 : Cond.selects "PlaceTimePlans" ⟨"PlaceTimePlans", "after", "(III)Z"⟩ ⟨"PlaceTimePlans", "after", "(III)Z"⟩ ∈ sx_T := sx_inT (List.mem_append_right _ (List.mem_append_left _ (List.mem_of_getElem? (l := tables_1_2) (i := 132) rfl))) rfl
theorem tw_373 : Cond.code ⟨"PlaceTimePlans", "after", "(III)Z"⟩ prog_1_method_4_code 4 (Option.some FieldType.boolean) ∈ sx_T := sx_inT (List.mem_append_right _ (List.mem_append_left _ (List.mem_of_getElem? (l := tables_1_2) (i := 133) rfl))) rfl
theorem tw_374 : Cond.methodLink "PlaceTimePlans" 87 ⟨"PlaceTimePlans", "isWork", "(I)Z"⟩ ∈ sx_T := sx_inT (List.mem_append_right _ (List.mem_append_left _ (List.mem_of_getElem? (l := tables_1_2) (i := 134) rfl))) rfl
theorem tw_376 : Cond.instanceMethod ⟨"PlaceTimePlans", "isWork", "(I)Z"⟩ ∈ sx_T := sx_inT (List.mem_append_right _ (List.mem_append_left _ (List.mem_of_getElem? (l := tables_1_2) (i := 136) rfl))) rfl
theorem tw_377 : Cond.code ⟨"PlaceTimePlans", "isWork", "(I)Z"⟩ prog_1_method_27_code 2 (Option.some FieldType.boolean) ∈ sx_T := sx_inT (List.mem_append_right _ (List.mem_append_left _ (List.mem_of_getElem? (l := tables_1_2) (i := 137) rfl))) rfl
theorem tw_378 : Cond.methodLink "PlaceTimePlans" 90 ⟨"PlaceTimePlans$Line", "setGap", "(III)V"⟩ ∈ sx_T := sx_inT (List.mem_append_right _ (List.mem_append_left _ (List.mem_of_getElem? (l := tables_1_2) (i := 138) rfl))) rfl
theorem tw_379 : Cond.instanceMethod ⟨"PlaceTimePlans$Line", "setGap", "(III)V"⟩ ∈ sx_T := sx_inT (List.mem_append_right _ (List.mem_append_left _ (List.mem_of_getElem? (l := tables_1_2) (i := 139) rfl))) rfl
theorem tw_380 : Cond.selects "PlaceTimePlans$Line" ⟨"PlaceTimePlans$Line", "setGap", "(III)V"⟩ ⟨"PlaceTimePlans$Line", "setGap", "(III)V"⟩ ∈ sx_T := sx_inT (List.mem_append_right _ (List.mem_append_left _ (List.mem_of_getElem? (l := tables_1_2) (i := 140) rfl))) rfl
theorem tw_381 : Cond.code ⟨"PlaceTimePlans$Line", "setGap", "(III)V"⟩ prog_3_method_5_code 4 none ∈ sx_T := sx_inT (List.mem_append_right _ (List.mem_append_left _ (List.mem_of_getElem? (l := tables_1_2) (i := 141) rfl))) rfl
theorem tw_382 : Cond.methodLink "PlaceTimePlansLaw" 28 ⟨"PlaceTimePlans", "season", "(III)Z"⟩ ∈ sx_T := sx_inT (List.mem_append_right _ (List.mem_append_left _ (List.mem_of_getElem? (l := tables_1_2) (i := 142) rfl))) rfl
theorem tw_383 : Cond.instanceMethod ⟨"PlaceTimePlans", "season", "(III)Z"⟩ ∈ sx_T := sx_inT (List.mem_append_right _ (List.mem_append_left _ (List.mem_of_getElem? (l := tables_1_2) (i := 143) rfl))) rfl
theorem tw_384 : Cond.selects "PlaceTimePlans" ⟨"PlaceTimePlans", "season", "(III)Z"⟩ ⟨"PlaceTimePlans", "season", "(III)Z"⟩ ∈ sx_T := sx_inT (List.mem_append_right _ (List.mem_append_left _ (List.mem_of_getElem? (l := tables_1_2) (i := 144) rfl))) rfl
theorem tw_385 : Cond.code ⟨"PlaceTimePlans", "season", "(III)Z"⟩ prog_1_method_5_code 5 (Option.some FieldType.boolean) ∈ sx_T := sx_inT (List.mem_append_right _ (List.mem_append_left _ (List.mem_of_getElem? (l := tables_1_2) (i := 145) rfl))) rfl
theorem tw_386 : Cond.methodLink "PlaceTimePlansLaw" 32 ⟨"PlaceTimePlans", "bar", "(III)Z"⟩ ∈ sx_T := sx_inT (List.mem_append_right _ (List.mem_append_left _ (List.mem_of_getElem? (l := tables_1_2) (i := 146) rfl))) rfl
theorem tw_387 : Cond.instanceMethod ⟨"PlaceTimePlans", "bar", "(III)Z"⟩ ∈ sx_T := sx_inT (List.mem_append_right _ (List.mem_append_left _ (List.mem_of_getElem? (l := tables_1_2) (i := 147) rfl))) rfl
theorem tw_388 : Cond.selects "PlaceTimePlans" ⟨"PlaceTimePlans", "bar", "(III)Z"⟩ ⟨"PlaceTimePlans", "bar", "(III)Z"⟩ ∈ sx_T := sx_inT (List.mem_append_right _ (List.mem_append_left _ (List.mem_of_getElem? (l := tables_1_2) (i := 148) rfl))) rfl
theorem tw_389 : Cond.code ⟨"PlaceTimePlans", "bar", "(III)Z"⟩ prog_1_method_6_code 4 (Option.some FieldType.boolean) ∈ sx_T := sx_inT (List.mem_append_right _ (List.mem_append_left _ (List.mem_of_getElem? (l := tables_1_2) (i := 149) rfl))) rfl
theorem tw_390 : Cond.methodLink "PlaceTimePlans" 106 ⟨"PlaceTimePlans$Work", "comesTo", "(I)Z"⟩ ∈ sx_T := sx_inT (List.mem_append_right _ (List.mem_append_left _ (List.mem_of_getElem? (l := tables_1_2) (i := 150) rfl))) rfl
theorem tw_391 : Cond.instanceMethod ⟨"PlaceTimePlans$Work", "comesTo", "(I)Z"⟩ ∈ sx_T := sx_inT (List.mem_append_right _ (List.mem_append_left _ (List.mem_of_getElem? (l := tables_1_2) (i := 151) rfl))) rfl
theorem tw_392 : Cond.selects "PlaceTimePlans$Work" ⟨"PlaceTimePlans$Work", "comesTo", "(I)Z"⟩ ⟨"PlaceTimePlans$Work", "comesTo", "(I)Z"⟩ ∈ sx_T := sx_inT (List.mem_append_right _ (List.mem_append_left _ (List.mem_of_getElem? (l := tables_1_2) (i := 152) rfl))) rfl
theorem tw_393 : Cond.code ⟨"PlaceTimePlans$Work", "comesTo", "(I)Z"⟩ prog_9_method_3_code 2 (Option.some FieldType.boolean) ∈ sx_T := sx_inT (List.mem_append_right _ (List.mem_append_left _ (List.mem_of_getElem? (l := tables_1_2) (i := 153) rfl))) rfl
theorem tw_394 : Cond.methodLink "PlaceTimePlans" 112 ⟨"PlaceTimePlans$Line", "addBar", "(III)V"⟩ ∈ sx_T := sx_inT (List.mem_append_right _ (List.mem_append_left _ (List.mem_of_getElem? (l := tables_1_2) (i := 154) rfl))) rfl
theorem tw_395 : Cond.instanceMethod ⟨"PlaceTimePlans$Line", "addBar", "(III)V"⟩ ∈ sx_T := sx_inT (List.mem_append_right _ (List.mem_append_left _ (List.mem_of_getElem? (l := tables_1_2) (i := 155) rfl))) rfl
theorem tw_396 : Cond.selects "PlaceTimePlans$Line" ⟨"PlaceTimePlans$Line", "addBar", "(III)V"⟩ ⟨"PlaceTimePlans$Line", "addBar", "(III)V"⟩ ∈ sx_T := sx_inT (List.mem_append_right _ (List.mem_append_left _ (List.mem_of_getElem? (l := tables_1_2) (i := 156) rfl))) rfl
theorem tw_397 : Cond.code ⟨"PlaceTimePlans$Line", "addBar", "(III)V"⟩ prog_3_method_4_code 4 none ∈ sx_T := sx_inT (List.mem_append_right _ (List.mem_append_left _ (List.mem_of_getElem? (l := tables_1_2) (i := 157) rfl))) rfl
theorem tw_398 : Cond.methodLink "PlaceTimePlansLaw" 36 ⟨"PlaceTimePlans", "rest", "(I)Z"⟩ ∈ sx_T := sx_inT (List.mem_append_right _ (List.mem_append_left _ (List.mem_of_getElem? (l := tables_1_2) (i := 158) rfl))) rfl
theorem tw_399 : Cond.instanceMethod ⟨"PlaceTimePlans", "rest", "(I)Z"⟩ ∈ sx_T := sx_inT (List.mem_append_right _ (List.mem_append_left _ (List.mem_of_getElem? (l := tables_1_2) (i := 159) rfl))) rfl
theorem tw_400 : Cond.selects "PlaceTimePlans" ⟨"PlaceTimePlans", "rest", "(I)Z"⟩ ⟨"PlaceTimePlans", "rest", "(I)Z"⟩ ∈ sx_T := sx_inT (List.mem_append_right _ (List.mem_append_left _ (List.mem_of_getElem? (l := tables_1_2) (i := 160) rfl))) rfl
theorem tw_401 : Cond.code ⟨"PlaceTimePlans", "rest", "(I)Z"⟩ prog_1_method_7_code 2 (Option.some FieldType.boolean) ∈ sx_T := sx_inT (List.mem_append_right _ (List.mem_append_left _ (List.mem_of_getElem? (l := tables_1_2) (i := 161) rfl))) rfl
theorem tw_402 : Cond.methodLink "PlaceTimePlans" 119 ⟨"PlaceTimePlans$Days", "isWorking", "(I)Z"⟩ ∈ sx_T := sx_inT (List.mem_append_right _ (List.mem_append_left _ (List.mem_of_getElem? (l := tables_1_2) (i := 162) rfl))) rfl
theorem tw_403 : Cond.instanceMethod ⟨"PlaceTimePlans$Days", "isWorking", "(I)Z"⟩ ∈ sx_T := sx_inT (List.mem_append_right _ (List.mem_append_left _ (List.mem_of_getElem? (l := tables_1_2) (i := 163) rfl))) rfl
theorem tw_404 : Cond.selects "PlaceTimePlans$Days" ⟨"PlaceTimePlans$Days", "isWorking", "(I)Z"⟩ ⟨"PlaceTimePlans$Days", "isWorking", "(I)Z"⟩ ∈ sx_T := sx_inT (List.mem_append_right _ (List.mem_append_left _ (List.mem_of_getElem? (l := tables_1_2) (i := 164) rfl))) rfl
theorem tw_405 : Cond.code ⟨"PlaceTimePlans$Days", "isWorking", "(I)Z"⟩ prog_2_method_2_code 2 (Option.some FieldType.boolean) ∈ sx_T := sx_inT (List.mem_append_right _ (List.mem_append_left _ (List.mem_of_getElem? (l := tables_1_2) (i := 165) rfl))) rfl
theorem tw_406 : Cond.methodLink "PlaceTimePlans" 124 ⟨"PlaceTimePlans$Days", "giveRest", "(I)V"⟩ ∈ sx_T := sx_inT (List.mem_append_right _ (List.mem_append_left _ (List.mem_of_getElem? (l := tables_1_2) (i := 166) rfl))) rfl
theorem tw_407 : Cond.instanceMethod ⟨"PlaceTimePlans$Days", "giveRest", "(I)V"⟩ ∈ sx_T := sx_inT (List.mem_append_right _ (List.mem_append_left _ (List.mem_of_getElem? (l := tables_1_2) (i := 167) rfl))) rfl
theorem tw_408 : Cond.selects "PlaceTimePlans$Days" ⟨"PlaceTimePlans$Days", "giveRest", "(I)V"⟩ ⟨"PlaceTimePlans$Days", "giveRest", "(I)V"⟩ ∈ sx_T := sx_inT (List.mem_append_right _ (List.mem_append_left _ (List.mem_of_getElem? (l := tables_1_2) (i := 168) rfl))) rfl
theorem tw_409 : Cond.code ⟨"PlaceTimePlans$Days", "giveRest", "(I)V"⟩ prog_2_method_3_code 2 none ∈ sx_T := sx_inT (List.mem_append_right _ (List.mem_append_left _ (List.mem_of_getElem? (l := tables_1_2) (i := 169) rfl))) rfl
theorem tw_410 : Cond.methodLinkNest "PlaceTimePlans$Days" 25 ⟨"PlaceTimePlans", "isWithin", "(III)Z"⟩ "PlaceTimePlans" ∈ sx_N := sx_inN (List.mem_append_right _ (List.mem_append_left _ (List.mem_of_getElem? (l := tables_1_2) (i := 170) rfl))) rfl
theorem tw_411 : Cond.methodLink "PlaceTimePlansLaw" 41 ⟨"PlaceTimePlans", "most", "(II)I"⟩ ∈ sx_T := sx_inT (List.mem_append_right _ (List.mem_append_left _ (List.mem_of_getElem? (l := tables_1_2) (i := 171) rfl))) rfl
theorem tw_412 : Cond.instanceMethod ⟨"PlaceTimePlans", "most", "(II)I"⟩ ∈ sx_T := sx_inT (List.mem_append_right _ (List.mem_append_left _ (List.mem_of_getElem? (l := tables_1_2) (i := 172) rfl))) rfl
theorem tw_413 : Cond.selects "PlaceTimePlans" ⟨"PlaceTimePlans", "most", "(II)I"⟩ ⟨"PlaceTimePlans", "most", "(II)I"⟩ ∈ sx_T := sx_inT (List.mem_append_right _ (List.mem_append_left _ (List.mem_of_getElem? (l := tables_1_2) (i := 173) rfl))) rfl
theorem tw_414 : Cond.code ⟨"PlaceTimePlans", "most", "(II)I"⟩ prog_1_method_8_code 4 (Option.some FieldType.int) ∈ sx_T := sx_inT (List.mem_append_right _ (List.mem_append_left _ (List.mem_of_getElem? (l := tables_1_2) (i := 174) rfl))) rfl
theorem tw_415 : Cond.methodLink "PlaceTimePlansLaw" 46 ⟨"PlaceTimePlans", "learned", "(III)I"⟩ ∈ sx_T := sx_inT (List.mem_append_right _ (List.mem_append_left _ (List.mem_of_getElem? (l := tables_1_2) (i := 175) rfl))) rfl
theorem tw_416 : Cond.instanceMethod ⟨"PlaceTimePlans", "learned", "(III)I"⟩ ∈ sx_T := sx_inT (List.mem_append_right _ (List.mem_append_left _ (List.mem_of_getElem? (l := tables_1_2) (i := 176) rfl))) rfl
theorem tw_417 : Cond.selects "PlaceTimePlans" ⟨"PlaceTimePlans", "learned", "(III)I"⟩ ⟨"PlaceTimePlans", "learned", "(III)I"⟩ ∈ sx_T := sx_inT (List.mem_append_right _ (List.mem_append_left _ (List.mem_of_getElem? (l := tables_1_2) (i := 177) rfl))) rfl
theorem tw_418 : Cond.code ⟨"PlaceTimePlans", "learned", "(III)I"⟩ prog_1_method_9_code 5 (Option.some FieldType.int) ∈ sx_T := sx_inT (List.mem_append_right _ (List.mem_append_left _ (List.mem_of_getElem? (l := tables_1_2) (i := 178) rfl))) rfl
theorem tw_419 : Cond.methodLink "PlaceTimePlans" 132 ⟨"PlaceTimePlans$Work", "setSpeed", "(I)V"⟩ ∈ sx_T := sx_inT (List.mem_append_right _ (List.mem_append_left _ (List.mem_of_getElem? (l := tables_1_2) (i := 179) rfl))) rfl
theorem tw_420 : Cond.methodLink "PlaceTimePlansLaw" 51 ⟨"PlaceTimePlans", "run", "(I)I"⟩ ∈ sx_T := sx_inT (List.mem_append_right _ (List.mem_append_left _ (List.mem_of_getElem? (l := tables_1_2) (i := 180) rfl))) rfl
theorem tw_421 : Cond.instanceMethod ⟨"PlaceTimePlans", "run", "(I)I"⟩ ∈ sx_T := sx_inT (List.mem_append_right _ (List.mem_append_left _ (List.mem_of_getElem? (l := tables_1_2) (i := 181) rfl))) rfl
theorem tw_422 : Cond.selects "PlaceTimePlans" ⟨"PlaceTimePlans", "run", "(I)I"⟩ ⟨"PlaceTimePlans", "run", "(I)I"⟩ ∈ sx_T := sx_inT (List.mem_append_right _ (List.mem_append_left _ (List.mem_of_getElem? (l := tables_1_2) (i := 182) rfl))) rfl
theorem tw_423 : Cond.code ⟨"PlaceTimePlans", "run", "(I)I"⟩ prog_1_method_10_code 2 (Option.some FieldType.int) ∈ sx_T := sx_inT (List.mem_append_right _ (List.mem_append_left _ (List.mem_of_getElem? (l := tables_1_2) (i := 183) rfl))) rfl
theorem tw_424 : Cond.methodLink "PlaceTimePlans" 138 ⟨"PlaceTimePlans$Search", "seek", "(IZ)V"⟩ ∈ sx_T := sx_inT (List.mem_append_right _ (List.mem_append_left _ (List.mem_of_getElem? (l := tables_1_2) (i := 184) rfl))) rfl
theorem tw_425 : Cond.instanceMethod ⟨"PlaceTimePlans$Search", "seek", "(IZ)V"⟩ ∈ sx_T := sx_inT (List.mem_append_right _ (List.mem_append_left _ (List.mem_of_getElem? (l := tables_1_2) (i := 185) rfl))) rfl
theorem tw_426 : Cond.selects "PlaceTimePlans$Search" ⟨"PlaceTimePlans$Search", "seek", "(IZ)V"⟩ ⟨"PlaceTimePlans$Search", "seek", "(IZ)V"⟩ ∈ sx_T := sx_inT (List.mem_append_right _ (List.mem_append_left _ (List.mem_of_getElem? (l := tables_1_2) (i := 186) rfl))) rfl
theorem tw_427 : Cond.code ⟨"PlaceTimePlans$Search", "seek", "(IZ)V"⟩ prog_6_method_2_code 3 none ∈ sx_T := sx_inT (List.mem_append_right _ (List.mem_append_left _ (List.mem_of_getElem? (l := tables_1_2) (i := 187) rfl))) rfl
theorem tw_428 : Cond.methodLink "PlaceTimePlans$Search" 63 ⟨"PlaceTimePlans$Search", "tryStarts", "(I)V"⟩ ∈ sx_T := sx_inT (List.mem_append_right _ (List.mem_append_left _ (List.mem_of_getElem? (l := tables_1_2) (i := 188) rfl))) rfl
theorem tw_430 : Cond.instanceMethod ⟨"PlaceTimePlans$Search", "tryStarts", "(I)V"⟩ ∈ sx_T := sx_inT (List.mem_append_right _ (List.mem_append_left _ (List.mem_of_getElem? (l := tables_1_2) (i := 190) rfl))) rfl
theorem tw_431 : Cond.code ⟨"PlaceTimePlans$Search", "tryStarts", "(I)V"⟩ prog_6_method_3_code 9 none ∈ sx_T := sx_inT (List.mem_append_right _ (List.mem_append_left _ (List.mem_of_getElem? (l := tables_1_2) (i := 191) rfl))) rfl
theorem tw_432 : Cond.methodLink "PlaceTimePlans$Search" 90 ⟨"PlaceTimePlans$Rules", "open", "(LPlaceTimePlans$Window;LPlaceTimePlans$Placing;III)V"⟩ ∈ sx_T := sx_inT (List.mem_append_right _ (List.mem_append_left _ (List.mem_of_getElem? (l := tables_1_2) (i := 192) rfl))) rfl
theorem tw_433 : Cond.instanceMethod ⟨"PlaceTimePlans$Rules", "open", "(LPlaceTimePlans$Window;LPlaceTimePlans$Placing;III)V"⟩ ∈ sx_T := sx_inT (List.mem_append_right _ (List.mem_append_left _ (List.mem_of_getElem? (l := tables_1_2) (i := 193) rfl))) rfl
theorem tw_434 : Cond.selects "PlaceTimePlans$Rules" ⟨"PlaceTimePlans$Rules", "open", "(LPlaceTimePlans$Window;LPlaceTimePlans$Placing;III)V"⟩ ⟨"PlaceTimePlans$Rules", "open", "(LPlaceTimePlans$Window;LPlaceTimePlans$Placing;III)V"⟩ ∈ sx_T := sx_inT (List.mem_append_right _ (List.mem_append_left _ (List.mem_of_getElem? (l := tables_1_2) (i := 194) rfl))) rfl
theorem tw_435 : Cond.code ⟨"PlaceTimePlans$Rules", "open", "(LPlaceTimePlans$Window;LPlaceTimePlans$Placing;III)V"⟩ prog_5_method_3_code 7 none ∈ sx_T := sx_inT (List.mem_append_right _ (List.mem_append_left _ (List.mem_of_getElem? (l := tables_1_2) (i := 195) rfl))) rfl
theorem tw_436 : Cond.methodLink "PlaceTimePlans$Rules" 29 ⟨"PlaceTimePlans$Rules", "openAlone", "(LPlaceTimePlans$Window;II)V"⟩ ∈ sx_T := sx_inT (List.mem_append_right _ (List.mem_append_left _ (List.mem_of_getElem? (l := tables_1_2) (i := 196) rfl))) rfl
theorem tw_438 : Cond.instanceMethod ⟨"PlaceTimePlans$Rules", "openAlone", "(LPlaceTimePlans$Window;II)V"⟩ ∈ sx_T := sx_inT (List.mem_append_right _ (List.mem_append_left _ (List.mem_of_getElem? (l := tables_1_2) (i := 198) rfl))) rfl
theorem tw_439 : Cond.code ⟨"PlaceTimePlans$Rules", "openAlone", "(LPlaceTimePlans$Window;II)V"⟩ prog_5_method_4_code 9 none ∈ sx_T := sx_inT (List.mem_append_right _ (List.mem_append_left _ (List.mem_of_getElem? (l := tables_1_2) (i := 199) rfl))) rfl
theorem tw_440 : Cond.methodLink "PlaceTimePlans$Rules" 51 ⟨"PlaceTimePlans$Days", "before", "(I)I"⟩ ∈ sx_T := sx_inT (List.mem_append_right _ (List.mem_append_left _ (List.mem_of_getElem? (l := tables_1_2) (i := 200) rfl))) rfl
theorem tw_441 : Cond.instanceMethod ⟨"PlaceTimePlans$Days", "before", "(I)I"⟩ ∈ sx_T := sx_inT (List.mem_append_right _ (List.mem_append_left _ (List.mem_of_getElem? (l := tables_1_2) (i := 201) rfl))) rfl
theorem tw_442 : Cond.selects "PlaceTimePlans$Days" ⟨"PlaceTimePlans$Days", "before", "(I)I"⟩ ⟨"PlaceTimePlans$Days", "before", "(I)I"⟩ ∈ sx_T := sx_inT (List.mem_append_right _ (List.mem_append_left _ (List.mem_of_getElem? (l := tables_1_2) (i := 202) rfl))) rfl
theorem tw_443 : Cond.code ⟨"PlaceTimePlans$Days", "before", "(I)I"⟩ prog_2_method_4_code 2 (Option.some FieldType.int) ∈ sx_T := sx_inT (List.mem_append_right _ (List.mem_append_left _ (List.mem_of_getElem? (l := tables_1_2) (i := 203) rfl))) rfl
theorem tw_444 : Cond.methodLink "PlaceTimePlans$Rules" 67 ⟨"java/lang/Math", "min", "(II)I"⟩ ∈ sx_T := sx_inT (List.mem_append_right _ (List.mem_append_left _ (List.mem_of_getElem? (l := tables_1_2) (i := 204) rfl))) rfl
theorem tw_445 : Cond.methodLink "PlaceTimePlans$Rules" 73 ⟨"PlaceTimePlans$Window", "set", "(II)V"⟩ ∈ sx_T := sx_inT (List.mem_append_right _ (List.mem_append_left _ (List.mem_of_getElem? (l := tables_1_2) (i := 205) rfl))) rfl
theorem tw_446 : Cond.instanceMethod ⟨"PlaceTimePlans$Window", "set", "(II)V"⟩ ∈ sx_T := sx_inT (List.mem_append_right _ (List.mem_append_left _ (List.mem_of_getElem? (l := tables_1_2) (i := 206) rfl))) rfl
theorem tw_447 : Cond.selects "PlaceTimePlans$Window" ⟨"PlaceTimePlans$Window", "set", "(II)V"⟩ ⟨"PlaceTimePlans$Window", "set", "(II)V"⟩ ∈ sx_T := sx_inT (List.mem_append_right _ (List.mem_append_left _ (List.mem_of_getElem? (l := tables_1_2) (i := 207) rfl))) rfl
theorem tw_448 : Cond.code ⟨"PlaceTimePlans$Window", "set", "(II)V"⟩ prog_8_method_2_code 3 none ∈ sx_T := sx_inT (List.mem_append_right _ (List.mem_append_left _ (List.mem_of_getElem? (l := tables_1_2) (i := 208) rfl))) rfl
theorem tw_449 : Cond.methodLink "PlaceTimePlans$Rules" 80 ⟨"PlaceTimePlans$Window", "raiseLeast", "(I)V"⟩ ∈ sx_T := sx_inT (List.mem_append_right _ (List.mem_append_left _ (List.mem_of_getElem? (l := tables_1_2) (i := 209) rfl))) rfl
theorem tw_450 : Cond.instanceMethod ⟨"PlaceTimePlans$Window", "raiseLeast", "(I)V"⟩ ∈ sx_T := sx_inT (List.mem_append_right _ (List.mem_append_left _ (List.mem_of_getElem? (l := tables_1_2) (i := 210) rfl))) rfl
theorem tw_451 : Cond.selects "PlaceTimePlans$Window" ⟨"PlaceTimePlans$Window", "raiseLeast", "(I)V"⟩ ⟨"PlaceTimePlans$Window", "raiseLeast", "(I)V"⟩ ∈ sx_T := sx_inT (List.mem_append_right _ (List.mem_append_left _ (List.mem_of_getElem? (l := tables_1_2) (i := 211) rfl))) rfl
theorem tw_452 : Cond.code ⟨"PlaceTimePlans$Window", "raiseLeast", "(I)V"⟩ prog_8_method_3_code 2 none ∈ sx_T := sx_inT (List.mem_append_right _ (List.mem_append_left _ (List.mem_of_getElem? (l := tables_1_2) (i := 212) rfl))) rfl
theorem tw_453 : Cond.methodLink "PlaceTimePlans$Window" 16 ⟨"java/lang/Math", "max", "(II)I"⟩ ∈ sx_T := sx_inT (List.mem_append_right _ (List.mem_append_left _ (List.mem_of_getElem? (l := tables_1_2) (i := 213) rfl))) rfl
theorem tw_454 : Cond.methodLink "PlaceTimePlans$Rules" 94 ⟨"PlaceTimePlans$Work", "wayTo", "(II)I"⟩ ∈ sx_T := sx_inT (List.mem_append_right _ (List.mem_append_left _ (List.mem_of_getElem? (l := tables_1_2) (i := 214) rfl))) rfl
theorem tw_455 : Cond.instanceMethod ⟨"PlaceTimePlans$Work", "wayTo", "(II)I"⟩ ∈ sx_T := sx_inT (List.mem_append_right _ (List.mem_append_left _ (List.mem_of_getElem? (l := tables_1_2) (i := 215) rfl))) rfl
theorem tw_456 : Cond.selects "PlaceTimePlans$Work" ⟨"PlaceTimePlans$Work", "wayTo", "(II)I"⟩ ⟨"PlaceTimePlans$Work", "wayTo", "(II)I"⟩ ∈ sx_T := sx_inT (List.mem_append_right _ (List.mem_append_left _ (List.mem_of_getElem? (l := tables_1_2) (i := 216) rfl))) rfl
theorem tw_457 : Cond.code ⟨"PlaceTimePlans$Work", "wayTo", "(II)I"⟩ prog_9_method_4_code 3 (Option.some FieldType.int) ∈ sx_T := sx_inT (List.mem_append_right _ (List.mem_append_left _ (List.mem_of_getElem? (l := tables_1_2) (i := 217) rfl))) rfl
theorem tw_458 : Cond.methodLink "PlaceTimePlans$Rules" 100 ⟨"PlaceTimePlans$Rules", "firstStart", "(LPlaceTimePlans$Work;III)I"⟩ ∈ sx_T := sx_inT (List.mem_append_right _ (List.mem_append_left _ (List.mem_of_getElem? (l := tables_1_2) (i := 218) rfl))) rfl
theorem tw_460 : Cond.instanceMethod ⟨"PlaceTimePlans$Rules", "firstStart", "(LPlaceTimePlans$Work;III)I"⟩ ∈ sx_T := sx_inT (List.mem_append_right _ (List.mem_append_left _ (List.mem_of_getElem? (l := tables_1_2) (i := 220) rfl))) rfl
theorem tw_461 : Cond.code ⟨"PlaceTimePlans$Rules", "firstStart", "(LPlaceTimePlans$Work;III)I"⟩ prog_5_method_6_code 9 (Option.some FieldType.int) ∈ sx_T := sx_inT (List.mem_append_right _ (List.mem_append_left _ (List.mem_of_getElem? (l := tables_1_2) (i := 221) rfl))) rfl
theorem tw_462 : Cond.methodLink "PlaceTimePlans$Rules" 126 ⟨"PlaceTimePlans$Work", "wholeDays", "(IZ)I"⟩ ∈ sx_T := sx_inT (List.mem_append_right _ (List.mem_append_left _ (List.mem_of_getElem? (l := tables_1_2) (i := 222) rfl))) rfl
theorem tw_463 : Cond.instanceMethod ⟨"PlaceTimePlans$Work", "wholeDays", "(IZ)I"⟩ ∈ sx_T := sx_inT (List.mem_append_right _ (List.mem_append_left _ (List.mem_of_getElem? (l := tables_1_2) (i := 223) rfl))) rfl
theorem tw_464 : Cond.selects "PlaceTimePlans$Work" ⟨"PlaceTimePlans$Work", "wholeDays", "(IZ)I"⟩ ⟨"PlaceTimePlans$Work", "wholeDays", "(IZ)I"⟩ ∈ sx_T := sx_inT (List.mem_append_right _ (List.mem_append_left _ (List.mem_of_getElem? (l := tables_1_2) (i := 224) rfl))) rfl
theorem tw_465 : Cond.code ⟨"PlaceTimePlans$Work", "wholeDays", "(IZ)I"⟩ prog_9_method_5_code 4 (Option.some FieldType.int) ∈ sx_T := sx_inT (List.mem_append_right _ (List.mem_append_left _ (List.mem_of_getElem? (l := tables_1_2) (i := 225) rfl))) rfl
theorem tw_466 : Cond.methodLink "PlaceTimePlans$Rules" 130 ⟨"java/lang/Math", "floorDiv", "(II)I"⟩ ∈ sx_T := sx_inT (List.mem_append_right _ (List.mem_append_left _ (List.mem_of_getElem? (l := tables_1_2) (i := 226) rfl))) rfl
theorem tw_467 : Cond.static ⟨"java/lang/Math", "floorDiv", "(II)I"⟩ ∈ sx_T := sx_inT (List.mem_append_right _ (List.mem_append_left _ (List.mem_of_getElem? (l := tables_1_2) (i := 227) rfl))) rfl
theorem tw_468 : Cond.code ⟨"java/lang/Math", "floorDiv", "(II)I"⟩ prog_12_method_47_code 3 (Option.some FieldType.int) ∈ sx_T := sx_inT (List.mem_append_right _ (List.mem_append_left _ (List.mem_of_getElem? (l := tables_1_2) (i := 228) rfl))) rfl
theorem tw_469 : Cond.methodLink "PlaceTimePlans$Rules" 47 ⟨"PlaceTimePlans$Rules", "keepGaps", "(LPlaceTimePlans$Window;LPlaceTimePlans$Placing;III)V"⟩ ∈ sx_T := sx_inT (List.mem_append_right _ (List.mem_append_left _ (List.mem_of_getElem? (l := tables_1_2) (i := 229) rfl))) rfl
theorem tw_471 : Cond.instanceMethod ⟨"PlaceTimePlans$Rules", "keepGaps", "(LPlaceTimePlans$Window;LPlaceTimePlans$Placing;III)V"⟩ ∈ sx_T := sx_inT (List.mem_append_right _ (List.mem_append_left _ (List.mem_of_getElem? (l := tables_1_2) (i := 231) rfl))) rfl
theorem tw_472 : Cond.code ⟨"PlaceTimePlans$Rules", "keepGaps", "(LPlaceTimePlans$Window;LPlaceTimePlans$Placing;III)V"⟩ prog_5_method_5_code 14 none ∈ sx_T := sx_inT (List.mem_append_right _ (List.mem_append_left _ (List.mem_of_getElem? (l := tables_1_2) (i := 232) rfl))) rfl
theorem tw_473 : Cond.methodLink "PlaceTimePlans$Rules" 104 ⟨"PlaceTimePlans$Line", "gapBetween", "(II)I"⟩ ∈ sx_T := sx_inT (List.mem_append_right _ (List.mem_append_left _ (List.mem_of_getElem? (l := tables_1_2) (i := 233) rfl))) rfl
theorem tw_474 : Cond.instanceMethod ⟨"PlaceTimePlans$Line", "gapBetween", "(II)I"⟩ ∈ sx_T := sx_inT (List.mem_append_right _ (List.mem_append_left _ (List.mem_of_getElem? (l := tables_1_2) (i := 234) rfl))) rfl
theorem tw_475 : Cond.selects "PlaceTimePlans$Line" ⟨"PlaceTimePlans$Line", "gapBetween", "(II)I"⟩ ⟨"PlaceTimePlans$Line", "gapBetween", "(II)I"⟩ ∈ sx_T := sx_inT (List.mem_append_right _ (List.mem_append_left _ (List.mem_of_getElem? (l := tables_1_2) (i := 235) rfl))) rfl
theorem tw_476 : Cond.code ⟨"PlaceTimePlans$Line", "gapBetween", "(II)I"⟩ prog_3_method_6_code 4 (Option.some FieldType.int) ∈ sx_T := sx_inT (List.mem_append_right _ (List.mem_append_left _ (List.mem_of_getElem? (l := tables_1_2) (i := 236) rfl))) rfl
theorem tw_477 : Cond.methodLink "PlaceTimePlans$Rules" 110 ⟨"PlaceTimePlans$Line", "lastShared", "(II)I"⟩ ∈ sx_T := sx_inT (List.mem_append_right _ (List.mem_append_left _ (List.mem_of_getElem? (l := tables_1_2) (i := 237) rfl))) rfl
theorem tw_478 : Cond.instanceMethod ⟨"PlaceTimePlans$Line", "lastShared", "(II)I"⟩ ∈ sx_T := sx_inT (List.mem_append_right _ (List.mem_append_left _ (List.mem_of_getElem? (l := tables_1_2) (i := 238) rfl))) rfl
theorem tw_479 : Cond.selects "PlaceTimePlans$Line" ⟨"PlaceTimePlans$Line", "lastShared", "(II)I"⟩ ⟨"PlaceTimePlans$Line", "lastShared", "(II)I"⟩ ∈ sx_T := sx_inT (List.mem_append_right _ (List.mem_append_left _ (List.mem_of_getElem? (l := tables_1_2) (i := 239) rfl))) rfl
theorem tw_480 : Cond.code ⟨"PlaceTimePlans$Line", "lastShared", "(II)I"⟩ prog_3_method_8_code 3 (Option.some FieldType.int) ∈ sx_T := sx_inT (List.mem_append_right _ (List.mem_append_right _ (List.mem_append_left _ (List.mem_of_getElem? (l := tables_1_3) (i := 0) rfl)))) rfl
theorem tw_481 : Cond.methodLink "PlaceTimePlans$Line" 84 ⟨"java/lang/Math", "min", "(II)I"⟩ ∈ sx_T := sx_inT (List.mem_append_right _ (List.mem_append_right _ (List.mem_append_left _ (List.mem_of_getElem? (l := tables_1_3) (i := 1) rfl)))) rfl
theorem tw_482 : Cond.methodLink "PlaceTimePlans$Rules" 113 ⟨"PlaceTimePlans$Line", "firstShared", "(II)I"⟩ ∈ sx_T := sx_inT (List.mem_append_right _ (List.mem_append_right _ (List.mem_append_left _ (List.mem_of_getElem? (l := tables_1_3) (i := 2) rfl)))) rfl
theorem tw_483 : Cond.instanceMethod ⟨"PlaceTimePlans$Line", "firstShared", "(II)I"⟩ ∈ sx_T := sx_inT (List.mem_append_right _ (List.mem_append_right _ (List.mem_append_left _ (List.mem_of_getElem? (l := tables_1_3) (i := 3) rfl)))) rfl
theorem tw_484 : Cond.selects "PlaceTimePlans$Line" ⟨"PlaceTimePlans$Line", "firstShared", "(II)I"⟩ ⟨"PlaceTimePlans$Line", "firstShared", "(II)I"⟩ ∈ sx_T := sx_inT (List.mem_append_right _ (List.mem_append_right _ (List.mem_append_left _ (List.mem_of_getElem? (l := tables_1_3) (i := 4) rfl)))) rfl
theorem tw_485 : Cond.code ⟨"PlaceTimePlans$Line", "firstShared", "(II)I"⟩ prog_3_method_7_code 3 (Option.some FieldType.int) ∈ sx_T := sx_inT (List.mem_append_right _ (List.mem_append_right _ (List.mem_append_left _ (List.mem_of_getElem? (l := tables_1_3) (i := 5) rfl)))) rfl
theorem tw_486 : Cond.methodLink "PlaceTimePlans$Line" 78 ⟨"java/lang/Math", "max", "(II)I"⟩ ∈ sx_T := sx_inT (List.mem_append_right _ (List.mem_append_right _ (List.mem_append_left _ (List.mem_of_getElem? (l := tables_1_3) (i := 6) rfl)))) rfl
theorem tw_487 : Cond.methodLink "PlaceTimePlans$Rules" 116 ⟨"PlaceTimePlans$Line", "passTime", "(ILPlaceTimePlans$Placing;IZ)I"⟩ ∈ sx_T := sx_inT (List.mem_append_right _ (List.mem_append_right _ (List.mem_append_left _ (List.mem_of_getElem? (l := tables_1_3) (i := 7) rfl)))) rfl
theorem tw_488 : Cond.instanceMethod ⟨"PlaceTimePlans$Line", "passTime", "(ILPlaceTimePlans$Placing;IZ)I"⟩ ∈ sx_T := sx_inT (List.mem_append_right _ (List.mem_append_right _ (List.mem_append_left _ (List.mem_of_getElem? (l := tables_1_3) (i := 8) rfl)))) rfl
theorem tw_489 : Cond.selects "PlaceTimePlans$Line" ⟨"PlaceTimePlans$Line", "passTime", "(ILPlaceTimePlans$Placing;IZ)I"⟩ ⟨"PlaceTimePlans$Line", "passTime", "(ILPlaceTimePlans$Placing;IZ)I"⟩ ∈ sx_T := sx_inT (List.mem_append_right _ (List.mem_append_right _ (List.mem_append_left _ (List.mem_of_getElem? (l := tables_1_3) (i := 9) rfl)))) rfl
theorem tw_490 : Cond.code ⟨"PlaceTimePlans$Line", "passTime", "(ILPlaceTimePlans$Placing;IZ)I"⟩ prog_3_method_10_code 9 (Option.some FieldType.int) ∈ sx_T := sx_inT (List.mem_append_right _ (List.mem_append_right _ (List.mem_append_left _ (List.mem_of_getElem? (l := tables_1_3) (i := 10) rfl)))) rfl
theorem tw_491 : Cond.methodLink "PlaceTimePlans$Line" 102 ⟨"PlaceTimePlans$Work", "wayTo", "(II)I"⟩ ∈ sx_T := sx_inT (List.mem_append_right _ (List.mem_append_right _ (List.mem_append_left _ (List.mem_of_getElem? (l := tables_1_3) (i := 11) rfl)))) rfl
theorem tw_492 : Cond.methodLink "PlaceTimePlans$Line" 105 ⟨"PlaceTimePlans$Work", "wholeDays", "(IZ)I"⟩ ∈ sx_T := sx_inT (List.mem_append_right _ (List.mem_append_right _ (List.mem_append_left _ (List.mem_of_getElem? (l := tables_1_3) (i := 12) rfl)))) rfl
theorem tw_493 : Cond.methodLink "PlaceTimePlans$Line" 87 ⟨"PlaceTimePlans$Days", "before", "(I)I"⟩ ∈ sx_T := sx_inT (List.mem_append_right _ (List.mem_append_right _ (List.mem_append_left _ (List.mem_of_getElem? (l := tables_1_3) (i := 13) rfl)))) rfl
theorem tw_494 : Cond.methodLink "PlaceTimePlans$Line" 94 ⟨"PlaceTimePlans$Days", "dayOf", "(I)I"⟩ ∈ sx_T := sx_inT (List.mem_append_right _ (List.mem_append_right _ (List.mem_append_left _ (List.mem_of_getElem? (l := tables_1_3) (i := 14) rfl)))) rfl
theorem tw_495 : Cond.instanceMethod ⟨"PlaceTimePlans$Days", "dayOf", "(I)I"⟩ ∈ sx_T := sx_inT (List.mem_append_right _ (List.mem_append_right _ (List.mem_append_left _ (List.mem_of_getElem? (l := tables_1_3) (i := 15) rfl)))) rfl
theorem tw_496 : Cond.selects "PlaceTimePlans$Days" ⟨"PlaceTimePlans$Days", "dayOf", "(I)I"⟩ ⟨"PlaceTimePlans$Days", "dayOf", "(I)I"⟩ ∈ sx_T := sx_inT (List.mem_append_right _ (List.mem_append_right _ (List.mem_append_left _ (List.mem_of_getElem? (l := tables_1_3) (i := 16) rfl)))) rfl
theorem tw_497 : Cond.code ⟨"PlaceTimePlans$Days", "dayOf", "(I)I"⟩ prog_2_method_5_code 2 (Option.some FieldType.int) ∈ sx_T := sx_inT (List.mem_append_right _ (List.mem_append_right _ (List.mem_append_left _ (List.mem_of_getElem? (l := tables_1_3) (i := 17) rfl)))) rfl
theorem tw_498 : Cond.methodLink "PlaceTimePlans$Rules" 120 ⟨"PlaceTimePlans$Rules", "lastStart", "(LPlaceTimePlans$Work;III)I"⟩ ∈ sx_T := sx_inT (List.mem_append_right _ (List.mem_append_right _ (List.mem_append_left _ (List.mem_of_getElem? (l := tables_1_3) (i := 18) rfl)))) rfl
theorem tw_500 : Cond.instanceMethod ⟨"PlaceTimePlans$Rules", "lastStart", "(LPlaceTimePlans$Work;III)I"⟩ ∈ sx_T := sx_inT (List.mem_append_right _ (List.mem_append_right _ (List.mem_append_left _ (List.mem_of_getElem? (l := tables_1_3) (i := 20) rfl)))) rfl
theorem tw_501 : Cond.code ⟨"PlaceTimePlans$Rules", "lastStart", "(LPlaceTimePlans$Work;III)I"⟩ prog_5_method_7_code 9 (Option.some FieldType.int) ∈ sx_T := sx_inT (List.mem_append_right _ (List.mem_append_right _ (List.mem_append_left _ (List.mem_of_getElem? (l := tables_1_3) (i := 21) rfl)))) rfl
theorem tw_502 : Cond.methodLink "PlaceTimePlans$Rules" 123 ⟨"PlaceTimePlans$Window", "lowerGreatest", "(I)V"⟩ ∈ sx_T := sx_inT (List.mem_append_right _ (List.mem_append_right _ (List.mem_append_left _ (List.mem_of_getElem? (l := tables_1_3) (i := 22) rfl)))) rfl
theorem tw_503 : Cond.instanceMethod ⟨"PlaceTimePlans$Window", "lowerGreatest", "(I)V"⟩ ∈ sx_T := sx_inT (List.mem_append_right _ (List.mem_append_right _ (List.mem_append_left _ (List.mem_of_getElem? (l := tables_1_3) (i := 23) rfl)))) rfl
theorem tw_504 : Cond.selects "PlaceTimePlans$Window" ⟨"PlaceTimePlans$Window", "lowerGreatest", "(I)V"⟩ ⟨"PlaceTimePlans$Window", "lowerGreatest", "(I)V"⟩ ∈ sx_T := sx_inT (List.mem_append_right _ (List.mem_append_right _ (List.mem_append_left _ (List.mem_of_getElem? (l := tables_1_3) (i := 24) rfl)))) rfl
theorem tw_505 : Cond.code ⟨"PlaceTimePlans$Window", "lowerGreatest", "(I)V"⟩ prog_8_method_4_code 2 none ∈ sx_T := sx_inT (List.mem_append_right _ (List.mem_append_right _ (List.mem_append_left _ (List.mem_of_getElem? (l := tables_1_3) (i := 25) rfl)))) rfl
theorem tw_506 : Cond.methodLink "PlaceTimePlans$Window" 22 ⟨"java/lang/Math", "min", "(II)I"⟩ ∈ sx_T := sx_inT (List.mem_append_right _ (List.mem_append_right _ (List.mem_append_left _ (List.mem_of_getElem? (l := tables_1_3) (i := 26) rfl)))) rfl
theorem tw_507 : Cond.methodLink "PlaceTimePlans$Search" 96 ⟨"PlaceTimePlans$Search", "tryOne", "(III)V"⟩ ∈ sx_T := sx_inT (List.mem_append_right _ (List.mem_append_right _ (List.mem_append_left _ (List.mem_of_getElem? (l := tables_1_3) (i := 27) rfl)))) rfl
theorem tw_509 : Cond.instanceMethod ⟨"PlaceTimePlans$Search", "tryOne", "(III)V"⟩ ∈ sx_T := sx_inT (List.mem_append_right _ (List.mem_append_right _ (List.mem_append_left _ (List.mem_of_getElem? (l := tables_1_3) (i := 29) rfl)))) rfl
theorem tw_510 : Cond.code ⟨"PlaceTimePlans$Search", "tryOne", "(III)V"⟩ prog_6_method_4_code 6 none ∈ sx_T := sx_inT (List.mem_append_right _ (List.mem_append_right _ (List.mem_append_left _ (List.mem_of_getElem? (l := tables_1_3) (i := 30) rfl)))) rfl
theorem tw_511 : Cond.methodLink "PlaceTimePlans$Search" 100 ⟨"PlaceTimePlans$Line", "endOf", "(II)I"⟩ ∈ sx_T := sx_inT (List.mem_append_right _ (List.mem_append_right _ (List.mem_append_left _ (List.mem_of_getElem? (l := tables_1_3) (i := 31) rfl)))) rfl
theorem tw_512 : Cond.instanceMethod ⟨"PlaceTimePlans$Line", "endOf", "(II)I"⟩ ∈ sx_T := sx_inT (List.mem_append_right _ (List.mem_append_right _ (List.mem_append_left _ (List.mem_of_getElem? (l := tables_1_3) (i := 32) rfl)))) rfl
theorem tw_513 : Cond.selects "PlaceTimePlans$Line" ⟨"PlaceTimePlans$Line", "endOf", "(II)I"⟩ ⟨"PlaceTimePlans$Line", "endOf", "(II)I"⟩ ∈ sx_T := sx_inT (List.mem_append_right _ (List.mem_append_right _ (List.mem_append_left _ (List.mem_of_getElem? (l := tables_1_3) (i := 33) rfl)))) rfl
theorem tw_514 : Cond.code ⟨"PlaceTimePlans$Line", "endOf", "(II)I"⟩ prog_3_method_9_code 3 (Option.some FieldType.int) ∈ sx_T := sx_inT (List.mem_append_right _ (List.mem_append_right _ (List.mem_append_left _ (List.mem_of_getElem? (l := tables_1_3) (i := 34) rfl)))) rfl
theorem tw_515 : Cond.methodLink "PlaceTimePlans$Search" 104 ⟨"java/lang/Math", "max", "(II)I"⟩ ∈ sx_T := sx_inT (List.mem_append_right _ (List.mem_append_right _ (List.mem_append_left _ (List.mem_of_getElem? (l := tables_1_3) (i := 35) rfl)))) rfl
theorem tw_516 : Cond.methodLink "PlaceTimePlans$Search" 109 ⟨"PlaceTimePlans$Search", "isMove", "(III)Z"⟩ ∈ sx_T := sx_inT (List.mem_append_right _ (List.mem_append_right _ (List.mem_append_left _ (List.mem_of_getElem? (l := tables_1_3) (i := 36) rfl)))) rfl
theorem tw_518 : Cond.instanceMethod ⟨"PlaceTimePlans$Search", "isMove", "(III)Z"⟩ ∈ sx_T := sx_inT (List.mem_append_right _ (List.mem_append_right _ (List.mem_append_left _ (List.mem_of_getElem? (l := tables_1_3) (i := 38) rfl)))) rfl
theorem tw_519 : Cond.code ⟨"PlaceTimePlans$Search", "isMove", "(III)Z"⟩ prog_6_method_5_code 4 (Option.some FieldType.boolean) ∈ sx_T := sx_inT (List.mem_append_right _ (List.mem_append_right _ (List.mem_append_left _ (List.mem_of_getElem? (l := tables_1_3) (i := 39) rfl)))) rfl
theorem tw_520 : Cond.methodLink "PlaceTimePlans$Search" 126 ⟨"PlaceTimePlans$Placing", "isElsewhere", "(III)Z"⟩ ∈ sx_T := sx_inT (List.mem_append_right _ (List.mem_append_right _ (List.mem_append_left _ (List.mem_of_getElem? (l := tables_1_3) (i := 40) rfl)))) rfl
theorem tw_521 : Cond.instanceMethod ⟨"PlaceTimePlans$Placing", "isElsewhere", "(III)Z"⟩ ∈ sx_T := sx_inT (List.mem_append_right _ (List.mem_append_right _ (List.mem_append_left _ (List.mem_of_getElem? (l := tables_1_3) (i := 41) rfl)))) rfl
theorem tw_522 : Cond.selects "PlaceTimePlans$Placing" ⟨"PlaceTimePlans$Placing", "isElsewhere", "(III)Z"⟩ ⟨"PlaceTimePlans$Placing", "isElsewhere", "(III)Z"⟩ ∈ sx_T := sx_inT (List.mem_append_right _ (List.mem_append_right _ (List.mem_append_left _ (List.mem_of_getElem? (l := tables_1_3) (i := 42) rfl)))) rfl
theorem tw_523 : Cond.code ⟨"PlaceTimePlans$Placing", "isElsewhere", "(III)Z"⟩ prog_4_method_3_code 4 (Option.some FieldType.boolean) ∈ sx_T := sx_inT (List.mem_append_right _ (List.mem_append_right _ (List.mem_append_left _ (List.mem_of_getElem? (l := tables_1_3) (i := 43) rfl)))) rfl
theorem tw_524 : Cond.methodLinkNest "PlaceTimePlans$Placing" 18 ⟨"PlaceTimePlans", "isWithin", "(III)Z"⟩ "PlaceTimePlans" ∈ sx_N := sx_inN (List.mem_append_right _ (List.mem_append_right _ (List.mem_append_left _ (List.mem_of_getElem? (l := tables_1_3) (i := 44) rfl)))) rfl
theorem tw_525 : Cond.methodLink "PlaceTimePlans$Search" 113 ⟨"PlaceTimePlans$Search", "isBetter", "(II)Z"⟩ ∈ sx_T := sx_inT (List.mem_append_right _ (List.mem_append_right _ (List.mem_append_left _ (List.mem_of_getElem? (l := tables_1_3) (i := 45) rfl)))) rfl
theorem tw_527 : Cond.instanceMethod ⟨"PlaceTimePlans$Search", "isBetter", "(II)Z"⟩ ∈ sx_T := sx_inT (List.mem_append_right _ (List.mem_append_right _ (List.mem_append_left _ (List.mem_of_getElem? (l := tables_1_3) (i := 47) rfl)))) rfl
theorem tw_528 : Cond.code ⟨"PlaceTimePlans$Search", "isBetter", "(II)Z"⟩ prog_6_method_6_code 3 (Option.some FieldType.boolean) ∈ sx_T := sx_inT (List.mem_append_right _ (List.mem_append_right _ (List.mem_append_left _ (List.mem_of_getElem? (l := tables_1_3) (i := 48) rfl)))) rfl
theorem tw_529 : Cond.methodLink "PlaceTimePlans$Search" 117 ⟨"PlaceTimePlans$Search", "keepsRules", "(III)Z"⟩ ∈ sx_T := sx_inT (List.mem_append_right _ (List.mem_append_right _ (List.mem_append_left _ (List.mem_of_getElem? (l := tables_1_3) (i := 49) rfl)))) rfl
theorem tw_531 : Cond.instanceMethod ⟨"PlaceTimePlans$Search", "keepsRules", "(III)Z"⟩ ∈ sx_T := sx_inT (List.mem_append_right _ (List.mem_append_right _ (List.mem_append_left _ (List.mem_of_getElem? (l := tables_1_3) (i := 51) rfl)))) rfl
theorem tw_532 : Cond.code ⟨"PlaceTimePlans$Search", "keepsRules", "(III)Z"⟩ prog_6_method_7_code 4 (Option.some FieldType.boolean) ∈ sx_T := sx_inT (List.mem_append_right _ (List.mem_append_right _ (List.mem_append_left _ (List.mem_of_getElem? (l := tables_1_3) (i := 52) rfl)))) rfl
theorem tw_533 : Cond.methodLink "PlaceTimePlans$Search" 139 ⟨"PlaceTimePlans$Days", "isWorking", "(I)Z"⟩ ∈ sx_T := sx_inT (List.mem_append_right _ (List.mem_append_right _ (List.mem_append_left _ (List.mem_of_getElem? (l := tables_1_3) (i := 53) rfl)))) rfl
theorem tw_534 : Cond.methodLink "PlaceTimePlans$Search" 145 ⟨"PlaceTimePlans$Days", "before", "(I)I"⟩ ∈ sx_T := sx_inT (List.mem_append_right _ (List.mem_append_right _ (List.mem_append_left _ (List.mem_of_getElem? (l := tables_1_3) (i := 54) rfl)))) rfl
theorem tw_535 : Cond.methodLink "PlaceTimePlans$Search" 149 ⟨"PlaceTimePlans$Window", "holds", "(I)Z"⟩ ∈ sx_T := sx_inT (List.mem_append_right _ (List.mem_append_right _ (List.mem_append_left _ (List.mem_of_getElem? (l := tables_1_3) (i := 55) rfl)))) rfl
theorem tw_536 : Cond.instanceMethod ⟨"PlaceTimePlans$Window", "holds", "(I)Z"⟩ ∈ sx_T := sx_inT (List.mem_append_right _ (List.mem_append_right _ (List.mem_append_left _ (List.mem_of_getElem? (l := tables_1_3) (i := 56) rfl)))) rfl
theorem tw_537 : Cond.selects "PlaceTimePlans$Window" ⟨"PlaceTimePlans$Window", "holds", "(I)Z"⟩ ⟨"PlaceTimePlans$Window", "holds", "(I)Z"⟩ ∈ sx_T := sx_inT (List.mem_append_right _ (List.mem_append_right _ (List.mem_append_left _ (List.mem_of_getElem? (l := tables_1_3) (i := 57) rfl)))) rfl
theorem tw_538 : Cond.code ⟨"PlaceTimePlans$Window", "holds", "(I)Z"⟩ prog_8_method_5_code 2 (Option.some FieldType.boolean) ∈ sx_T := sx_inT (List.mem_append_right _ (List.mem_append_right _ (List.mem_append_left _ (List.mem_of_getElem? (l := tables_1_3) (i := 58) rfl)))) rfl
theorem tw_539 : Cond.methodLink "PlaceTimePlans$Search" 152 ⟨"PlaceTimePlans$Rules", "hasRoom", "(LPlaceTimePlans$Placing;III)Z"⟩ ∈ sx_T := sx_inT (List.mem_append_right _ (List.mem_append_right _ (List.mem_append_left _ (List.mem_of_getElem? (l := tables_1_3) (i := 59) rfl)))) rfl
theorem tw_540 : Cond.instanceMethod ⟨"PlaceTimePlans$Rules", "hasRoom", "(LPlaceTimePlans$Placing;III)Z"⟩ ∈ sx_T := sx_inT (List.mem_append_right _ (List.mem_append_right _ (List.mem_append_left _ (List.mem_of_getElem? (l := tables_1_3) (i := 60) rfl)))) rfl
theorem tw_541 : Cond.selects "PlaceTimePlans$Rules" ⟨"PlaceTimePlans$Rules", "hasRoom", "(LPlaceTimePlans$Placing;III)Z"⟩ ⟨"PlaceTimePlans$Rules", "hasRoom", "(LPlaceTimePlans$Placing;III)Z"⟩ ∈ sx_T := sx_inT (List.mem_append_right _ (List.mem_append_right _ (List.mem_append_left _ (List.mem_of_getElem? (l := tables_1_3) (i := 61) rfl)))) rfl
theorem tw_542 : Cond.code ⟨"PlaceTimePlans$Rules", "hasRoom", "(LPlaceTimePlans$Placing;III)Z"⟩ prog_5_method_8_code 12 (Option.some FieldType.boolean) ∈ sx_T := sx_inT (List.mem_append_right _ (List.mem_append_right _ (List.mem_append_left _ (List.mem_of_getElem? (l := tables_1_3) (i := 62) rfl)))) rfl
theorem tw_543 : Cond.methodLink "PlaceTimePlans$Rules" 133 ⟨"PlaceTimePlans$Rules", "isCrowded", "(LPlaceTimePlans$Placing;III)Z"⟩ ∈ sx_T := sx_inT (List.mem_append_right _ (List.mem_append_right _ (List.mem_append_left _ (List.mem_of_getElem? (l := tables_1_3) (i := 63) rfl)))) rfl
theorem tw_545 : Cond.instanceMethod ⟨"PlaceTimePlans$Rules", "isCrowded", "(LPlaceTimePlans$Placing;III)Z"⟩ ∈ sx_T := sx_inT (List.mem_append_right _ (List.mem_append_right _ (List.mem_append_left _ (List.mem_of_getElem? (l := tables_1_3) (i := 65) rfl)))) rfl
theorem tw_546 : Cond.code ⟨"PlaceTimePlans$Rules", "isCrowded", "(LPlaceTimePlans$Placing;III)Z"⟩ prog_5_method_9_code 9 (Option.some FieldType.boolean) ∈ sx_T := sx_inT (List.mem_append_right _ (List.mem_append_right _ (List.mem_append_left _ (List.mem_of_getElem? (l := tables_1_3) (i := 66) rfl)))) rfl
theorem tw_547 : Cond.methodLinkNest "PlaceTimePlans$Rules" 148 ⟨"PlaceTimePlans", "isWithin", "(III)Z"⟩ "PlaceTimePlans" ∈ sx_N := sx_inN (List.mem_append_right _ (List.mem_append_right _ (List.mem_append_left _ (List.mem_of_getElem? (l := tables_1_3) (i := 67) rfl)))) rfl
theorem tw_548 : Cond.methodLink "PlaceTimePlans$Search" 120 ⟨"PlaceTimePlans$Placing", "put", "(III)V"⟩ ∈ sx_T := sx_inT (List.mem_append_right _ (List.mem_append_right _ (List.mem_append_left _ (List.mem_of_getElem? (l := tables_1_3) (i := 68) rfl)))) rfl
theorem tw_549 : Cond.instanceMethod ⟨"PlaceTimePlans$Placing", "put", "(III)V"⟩ ∈ sx_T := sx_inT (List.mem_append_right _ (List.mem_append_right _ (List.mem_append_left _ (List.mem_of_getElem? (l := tables_1_3) (i := 69) rfl)))) rfl
theorem tw_550 : Cond.selects "PlaceTimePlans$Placing" ⟨"PlaceTimePlans$Placing", "put", "(III)V"⟩ ⟨"PlaceTimePlans$Placing", "put", "(III)V"⟩ ∈ sx_T := sx_inT (List.mem_append_right _ (List.mem_append_right _ (List.mem_append_left _ (List.mem_of_getElem? (l := tables_1_3) (i := 70) rfl)))) rfl
theorem tw_551 : Cond.code ⟨"PlaceTimePlans$Placing", "put", "(III)V"⟩ prog_4_method_2_code 4 none ∈ sx_T := sx_inT (List.mem_append_right _ (List.mem_append_right _ (List.mem_append_left _ (List.mem_of_getElem? (l := tables_1_3) (i := 71) rfl)))) rfl
theorem tw_552 : Cond.methodLink "PlaceTimePlans$Search" 123 ⟨"PlaceTimePlans$Search", "keepAsBest", "(I)V"⟩ ∈ sx_T := sx_inT (List.mem_append_right _ (List.mem_append_right _ (List.mem_append_left _ (List.mem_of_getElem? (l := tables_1_3) (i := 72) rfl)))) rfl
theorem tw_554 : Cond.instanceMethod ⟨"PlaceTimePlans$Search", "keepAsBest", "(I)V"⟩ ∈ sx_T := sx_inT (List.mem_append_right _ (List.mem_append_right _ (List.mem_append_left _ (List.mem_of_getElem? (l := tables_1_3) (i := 74) rfl)))) rfl
theorem tw_555 : Cond.code ⟨"PlaceTimePlans$Search", "keepAsBest", "(I)V"⟩ prog_6_method_8_code 3 none ∈ sx_T := sx_inT (List.mem_append_right _ (List.mem_append_right _ (List.mem_append_left _ (List.mem_of_getElem? (l := tables_1_3) (i := 75) rfl)))) rfl
theorem tw_556 : Cond.methodLink "PlaceTimePlans" 142 ⟨"PlaceTimePlans", "takeOutcome", "(Z)Z"⟩ ∈ sx_T := sx_inT (List.mem_append_right _ (List.mem_append_right _ (List.mem_append_left _ (List.mem_of_getElem? (l := tables_1_3) (i := 76) rfl)))) rfl
theorem tw_558 : Cond.instanceMethod ⟨"PlaceTimePlans", "takeOutcome", "(Z)Z"⟩ ∈ sx_T := sx_inT (List.mem_append_right _ (List.mem_append_right _ (List.mem_append_left _ (List.mem_of_getElem? (l := tables_1_3) (i := 78) rfl)))) rfl
theorem tw_559 : Cond.code ⟨"PlaceTimePlans", "takeOutcome", "(Z)Z"⟩ prog_1_method_32_code 5 (Option.some FieldType.boolean) ∈ sx_T := sx_inT (List.mem_append_right _ (List.mem_append_right _ (List.mem_append_left _ (List.mem_of_getElem? (l := tables_1_3) (i := 79) rfl)))) rfl
theorem tw_560 : Cond.methodLink "PlaceTimePlans" 245 ⟨"PlaceTimePlans$Placing", "isElsewhere", "(III)Z"⟩ ∈ sx_T := sx_inT (List.mem_append_right _ (List.mem_append_right _ (List.mem_append_left _ (List.mem_of_getElem? (l := tables_1_3) (i := 80) rfl)))) rfl
theorem tw_561 : Cond.methodLink "PlaceTimePlans" 248 ⟨"PlaceTimePlans$Placing", "put", "(III)V"⟩ ∈ sx_T := sx_inT (List.mem_append_right _ (List.mem_append_right _ (List.mem_append_left _ (List.mem_of_getElem? (l := tables_1_3) (i := 81) rfl)))) rfl
theorem tw_562 : Cond.methodLink "PlaceTimePlansLaw" 55 ⟨"PlaceTimePlans", "proved", "()Z"⟩ ∈ sx_T := sx_inT (List.mem_append_right _ (List.mem_append_right _ (List.mem_append_left _ (List.mem_of_getElem? (l := tables_1_3) (i := 82) rfl)))) rfl
theorem tw_563 : Cond.instanceMethod ⟨"PlaceTimePlans", "proved", "()Z"⟩ ∈ sx_T := sx_inT (List.mem_append_right _ (List.mem_append_right _ (List.mem_append_left _ (List.mem_of_getElem? (l := tables_1_3) (i := 83) rfl)))) rfl
theorem tw_564 : Cond.selects "PlaceTimePlans" ⟨"PlaceTimePlans", "proved", "()Z"⟩ ⟨"PlaceTimePlans", "proved", "()Z"⟩ ∈ sx_T := sx_inT (List.mem_append_right _ (List.mem_append_right _ (List.mem_append_left _ (List.mem_of_getElem? (l := tables_1_3) (i := 84) rfl)))) rfl
theorem tw_565 : Cond.code ⟨"PlaceTimePlans", "proved", "()Z"⟩ prog_1_method_11_code 1 (Option.some FieldType.boolean) ∈ sx_T := sx_inT (List.mem_append_right _ (List.mem_append_right _ (List.mem_append_left _ (List.mem_of_getElem? (l := tables_1_3) (i := 85) rfl)))) rfl
theorem tw_566 : Cond.methodLink "PlaceTimePlansLaw" 60 ⟨"PlaceTimePlans", "tried", "()I"⟩ ∈ sx_T := sx_inT (List.mem_append_right _ (List.mem_append_right _ (List.mem_append_left _ (List.mem_of_getElem? (l := tables_1_3) (i := 86) rfl)))) rfl
theorem tw_567 : Cond.instanceMethod ⟨"PlaceTimePlans", "tried", "()I"⟩ ∈ sx_T := sx_inT (List.mem_append_right _ (List.mem_append_right _ (List.mem_append_left _ (List.mem_of_getElem? (l := tables_1_3) (i := 87) rfl)))) rfl
theorem tw_568 : Cond.selects "PlaceTimePlans" ⟨"PlaceTimePlans", "tried", "()I"⟩ ⟨"PlaceTimePlans", "tried", "()I"⟩ ∈ sx_T := sx_inT (List.mem_append_right _ (List.mem_append_right _ (List.mem_append_left _ (List.mem_of_getElem? (l := tables_1_3) (i := 88) rfl)))) rfl
theorem tw_569 : Cond.code ⟨"PlaceTimePlans", "tried", "()I"⟩ prog_1_method_12_code 1 (Option.some FieldType.int) ∈ sx_T := sx_inT (List.mem_append_right _ (List.mem_append_right _ (List.mem_append_left _ (List.mem_of_getElem? (l := tables_1_3) (i := 89) rfl)))) rfl
theorem tw_570 : Cond.methodLink "PlaceTimePlansLaw" 65 ⟨"PlaceTimePlans", "told", "(II)I"⟩ ∈ sx_T := sx_inT (List.mem_append_right _ (List.mem_append_right _ (List.mem_append_left _ (List.mem_of_getElem? (l := tables_1_3) (i := 90) rfl)))) rfl
theorem tw_571 : Cond.instanceMethod ⟨"PlaceTimePlans", "told", "(II)I"⟩ ∈ sx_T := sx_inT (List.mem_append_right _ (List.mem_append_right _ (List.mem_append_left _ (List.mem_of_getElem? (l := tables_1_3) (i := 91) rfl)))) rfl
theorem tw_572 : Cond.selects "PlaceTimePlans" ⟨"PlaceTimePlans", "told", "(II)I"⟩ ⟨"PlaceTimePlans", "told", "(II)I"⟩ ∈ sx_T := sx_inT (List.mem_append_right _ (List.mem_append_right _ (List.mem_append_left _ (List.mem_of_getElem? (l := tables_1_3) (i := 92) rfl)))) rfl
theorem tw_573 : Cond.code ⟨"PlaceTimePlans", "told", "(II)I"⟩ prog_1_method_13_code 3 (Option.some FieldType.int) ∈ sx_T := sx_inT (List.mem_append_right _ (List.mem_append_right _ (List.mem_append_left _ (List.mem_of_getElem? (l := tables_1_3) (i := 93) rfl)))) rfl
theorem tw_574 : Cond.methodLink "PlaceTimePlans" 156 ⟨"PlaceTimePlans", "isPlanned", "(I)Z"⟩ ∈ sx_T := sx_inT (List.mem_append_right _ (List.mem_append_right _ (List.mem_append_left _ (List.mem_of_getElem? (l := tables_1_3) (i := 94) rfl)))) rfl
theorem tw_576 : Cond.instanceMethod ⟨"PlaceTimePlans", "isPlanned", "(I)Z"⟩ ∈ sx_T := sx_inT (List.mem_append_right _ (List.mem_append_right _ (List.mem_append_left _ (List.mem_of_getElem? (l := tables_1_3) (i := 96) rfl)))) rfl
theorem tw_577 : Cond.code ⟨"PlaceTimePlans", "isPlanned", "(I)Z"⟩ prog_1_method_28_code 2 (Option.some FieldType.boolean) ∈ sx_T := sx_inT (List.mem_append_right _ (List.mem_append_right _ (List.mem_append_left _ (List.mem_of_getElem? (l := tables_1_3) (i := 97) rfl)))) rfl
theorem tw_578 : Cond.methodLink "PlaceTimePlans" 162 ⟨"PlaceTimePlans$Line", "endOf", "(II)I"⟩ ∈ sx_T := sx_inT (List.mem_append_right _ (List.mem_append_right _ (List.mem_append_left _ (List.mem_of_getElem? (l := tables_1_3) (i := 98) rfl)))) rfl
theorem tw_579 : Cond.methodLink "PlaceTimePlansLaw" 69 ⟨"PlaceTimePlans", "at", "(II)I"⟩ ∈ sx_T := sx_inT (List.mem_append_right _ (List.mem_append_right _ (List.mem_append_left _ (List.mem_of_getElem? (l := tables_1_3) (i := 99) rfl)))) rfl
theorem tw_580 : Cond.instanceMethod ⟨"PlaceTimePlans", "at", "(II)I"⟩ ∈ sx_T := sx_inT (List.mem_append_right _ (List.mem_append_right _ (List.mem_append_left _ (List.mem_of_getElem? (l := tables_1_3) (i := 100) rfl)))) rfl
theorem tw_581 : Cond.selects "PlaceTimePlans" ⟨"PlaceTimePlans", "at", "(II)I"⟩ ⟨"PlaceTimePlans", "at", "(II)I"⟩ ∈ sx_T := sx_inT (List.mem_append_right _ (List.mem_append_right _ (List.mem_append_left _ (List.mem_of_getElem? (l := tables_1_3) (i := 101) rfl)))) rfl
theorem tw_582 : Cond.code ⟨"PlaceTimePlans", "at", "(II)I"⟩ prog_1_method_14_code 3 (Option.some FieldType.int) ∈ sx_T := sx_inT (List.mem_append_right _ (List.mem_append_right _ (List.mem_append_left _ (List.mem_of_getElem? (l := tables_1_3) (i := 102) rfl)))) rfl
theorem tw_583 : Cond.methodLink "PlaceTimePlans" 169 ⟨"PlaceTimePlans$Line", "placeOn", "(ILPlaceTimePlans$Placing;I)I"⟩ ∈ sx_T := sx_inT (List.mem_append_right _ (List.mem_append_right _ (List.mem_append_left _ (List.mem_of_getElem? (l := tables_1_3) (i := 103) rfl)))) rfl
theorem tw_584 : Cond.instanceMethod ⟨"PlaceTimePlans$Line", "placeOn", "(ILPlaceTimePlans$Placing;I)I"⟩ ∈ sx_T := sx_inT (List.mem_append_right _ (List.mem_append_right _ (List.mem_append_left _ (List.mem_of_getElem? (l := tables_1_3) (i := 104) rfl)))) rfl
theorem tw_585 : Cond.selects "PlaceTimePlans$Line" ⟨"PlaceTimePlans$Line", "placeOn", "(ILPlaceTimePlans$Placing;I)I"⟩ ⟨"PlaceTimePlans$Line", "placeOn", "(ILPlaceTimePlans$Placing;I)I"⟩ ∈ sx_T := sx_inT (List.mem_append_right _ (List.mem_append_right _ (List.mem_append_left _ (List.mem_of_getElem? (l := tables_1_3) (i := 105) rfl)))) rfl
theorem tw_586 : Cond.code ⟨"PlaceTimePlans$Line", "placeOn", "(ILPlaceTimePlans$Placing;I)I"⟩ prog_3_method_11_code 7 (Option.some FieldType.int) ∈ sx_T := sx_inT (List.mem_append_right _ (List.mem_append_right _ (List.mem_append_left _ (List.mem_of_getElem? (l := tables_1_3) (i := 106) rfl)))) rfl
theorem tw_587 : Cond.methodLink "PlaceTimePlans$Line" 115 ⟨"PlaceTimePlans$Line", "endOf", "(II)I"⟩ ∈ sx_T := sx_inT (List.mem_append_right _ (List.mem_append_right _ (List.mem_append_left _ (List.mem_of_getElem? (l := tables_1_3) (i := 107) rfl)))) rfl
theorem tw_588 : Cond.methodLink "PlaceTimePlansLaw" 73 ⟨"PlaceTimePlans", "passes", "(IIZI)I"⟩ ∈ sx_T := sx_inT (List.mem_append_right _ (List.mem_append_right _ (List.mem_append_left _ (List.mem_of_getElem? (l := tables_1_3) (i := 108) rfl)))) rfl
theorem tw_589 : Cond.instanceMethod ⟨"PlaceTimePlans", "passes", "(IIZI)I"⟩ ∈ sx_T := sx_inT (List.mem_append_right _ (List.mem_append_right _ (List.mem_append_left _ (List.mem_of_getElem? (l := tables_1_3) (i := 109) rfl)))) rfl
theorem tw_590 : Cond.selects "PlaceTimePlans" ⟨"PlaceTimePlans", "passes", "(IIZI)I"⟩ ⟨"PlaceTimePlans", "passes", "(IIZI)I"⟩ ∈ sx_T := sx_inT (List.mem_append_right _ (List.mem_append_right _ (List.mem_append_left _ (List.mem_of_getElem? (l := tables_1_3) (i := 110) rfl)))) rfl
theorem tw_591 : Cond.code ⟨"PlaceTimePlans", "passes", "(IIZI)I"⟩ prog_1_method_15_code 8 (Option.some FieldType.int) ∈ sx_T := sx_inT (List.mem_append_right _ (List.mem_append_right _ (List.mem_append_left _ (List.mem_of_getElem? (l := tables_1_3) (i := 111) rfl)))) rfl
theorem tw_592 : Cond.methodLink "PlaceTimePlans" 173 ⟨"PlaceTimePlans$Line", "passTime", "(ILPlaceTimePlans$Placing;IZ)I"⟩ ∈ sx_T := sx_inT (List.mem_append_right _ (List.mem_append_right _ (List.mem_append_left _ (List.mem_of_getElem? (l := tables_1_3) (i := 112) rfl)))) rfl
theorem tw_593 : Cond.methodLink "PlaceTimePlans" 177 ⟨"PlaceTimePlans", "commonDivisor", "(II)I"⟩ ∈ sx_T := sx_inT (List.mem_append_right _ (List.mem_append_right _ (List.mem_append_left _ (List.mem_of_getElem? (l := tables_1_3) (i := 113) rfl)))) rfl
theorem tw_594 : Cond.static ⟨"PlaceTimePlans", "commonDivisor", "(II)I"⟩ ∈ sx_T := sx_inT (List.mem_append_right _ (List.mem_append_right _ (List.mem_append_left _ (List.mem_of_getElem? (l := tables_1_3) (i := 114) rfl)))) rfl
theorem tw_595 : Cond.code ⟨"PlaceTimePlans", "commonDivisor", "(II)I"⟩ prog_1_method_34_code 3 (Option.some FieldType.int) ∈ sx_T := sx_inT (List.mem_append_right _ (List.mem_append_right _ (List.mem_append_left _ (List.mem_of_getElem? (l := tables_1_3) (i := 115) rfl)))) rfl
theorem tw_596 : Cond.methodLink "PlaceTimePlansLaw" 78 ⟨"PlaceTimePlans", "crosses", "(II)Z"⟩ ∈ sx_T := sx_inT (List.mem_append_right _ (List.mem_append_right _ (List.mem_append_left _ (List.mem_of_getElem? (l := tables_1_3) (i := 116) rfl)))) rfl
theorem tw_597 : Cond.instanceMethod ⟨"PlaceTimePlans", "crosses", "(II)Z"⟩ ∈ sx_T := sx_inT (List.mem_append_right _ (List.mem_append_right _ (List.mem_append_left _ (List.mem_of_getElem? (l := tables_1_3) (i := 117) rfl)))) rfl
theorem tw_598 : Cond.selects "PlaceTimePlans" ⟨"PlaceTimePlans", "crosses", "(II)Z"⟩ ⟨"PlaceTimePlans", "crosses", "(II)Z"⟩ ∈ sx_T := sx_inT (List.mem_append_right _ (List.mem_append_right _ (List.mem_append_left _ (List.mem_of_getElem? (l := tables_1_3) (i := 118) rfl)))) rfl
theorem tw_599 : Cond.code ⟨"PlaceTimePlans", "crosses", "(II)Z"⟩ prog_1_method_16_code 9 (Option.some FieldType.boolean) ∈ sx_T := sx_inT (List.mem_append_right _ (List.mem_append_right _ (List.mem_append_left _ (List.mem_of_getElem? (l := tables_1_3) (i := 119) rfl)))) rfl
theorem tw_600 : Cond.methodLink "PlaceTimePlans" 180 ⟨"PlaceTimePlans$Line", "lastShared", "(II)I"⟩ ∈ sx_T := sx_inT (List.mem_append_right _ (List.mem_append_right _ (List.mem_append_left _ (List.mem_of_getElem? (l := tables_1_3) (i := 120) rfl)))) rfl
theorem tw_601 : Cond.methodLink "PlaceTimePlans" 183 ⟨"PlaceTimePlans$Line", "firstShared", "(II)I"⟩ ∈ sx_T := sx_inT (List.mem_append_right _ (List.mem_append_right _ (List.mem_append_left _ (List.mem_of_getElem? (l := tables_1_3) (i := 121) rfl)))) rfl
theorem tw_602 : Cond.methodLink "PlaceTimePlansLaw" 83 ⟨"PlaceTimePlans", "under", "(II)I"⟩ ∈ sx_T := sx_inT (List.mem_append_right _ (List.mem_append_right _ (List.mem_append_left _ (List.mem_of_getElem? (l := tables_1_3) (i := 122) rfl)))) rfl
theorem tw_603 : Cond.instanceMethod ⟨"PlaceTimePlans", "under", "(II)I"⟩ ∈ sx_T := sx_inT (List.mem_append_right _ (List.mem_append_right _ (List.mem_append_left _ (List.mem_of_getElem? (l := tables_1_3) (i := 123) rfl)))) rfl
theorem tw_604 : Cond.selects "PlaceTimePlans" ⟨"PlaceTimePlans", "under", "(II)I"⟩ ⟨"PlaceTimePlans", "under", "(II)I"⟩ ∈ sx_T := sx_inT (List.mem_append_right _ (List.mem_append_right _ (List.mem_append_left _ (List.mem_of_getElem? (l := tables_1_3) (i := 124) rfl)))) rfl
theorem tw_605 : Cond.code ⟨"PlaceTimePlans", "under", "(II)I"⟩ prog_1_method_17_code 6 (Option.some FieldType.int) ∈ sx_T := sx_inT (List.mem_append_right _ (List.mem_append_right _ (List.mem_append_left _ (List.mem_of_getElem? (l := tables_1_3) (i := 125) rfl)))) rfl
theorem tw_606 : Cond.methodLink "PlaceTimePlansLaw" 87 ⟨"PlaceTimePlans", "bound", "()I"⟩ ∈ sx_T := sx_inT (List.mem_append_right _ (List.mem_append_right _ (List.mem_append_left _ (List.mem_of_getElem? (l := tables_1_3) (i := 126) rfl)))) rfl
theorem tw_607 : Cond.instanceMethod ⟨"PlaceTimePlans", "bound", "()I"⟩ ∈ sx_T := sx_inT (List.mem_append_right _ (List.mem_append_right _ (List.mem_append_left _ (List.mem_of_getElem? (l := tables_1_3) (i := 127) rfl)))) rfl
theorem tw_608 : Cond.selects "PlaceTimePlans" ⟨"PlaceTimePlans", "bound", "()I"⟩ ⟨"PlaceTimePlans", "bound", "()I"⟩ ∈ sx_T := sx_inT (List.mem_append_right _ (List.mem_append_right _ (List.mem_append_left _ (List.mem_of_getElem? (l := tables_1_3) (i := 128) rfl)))) rfl
theorem tw_609 : Cond.code ⟨"PlaceTimePlans", "bound", "()I"⟩ prog_1_method_18_code 3 (Option.some FieldType.int) ∈ sx_T := sx_inT (List.mem_append_right _ (List.mem_append_right _ (List.mem_append_left _ (List.mem_of_getElem? (l := tables_1_3) (i := 129) rfl)))) rfl
theorem tw_610 : Cond.methodLink "PlaceTimePlans" 192 ⟨"PlaceTimePlans$Line", "daysOfCrew", "(I)I"⟩ ∈ sx_T := sx_inT (List.mem_append_right _ (List.mem_append_right _ (List.mem_append_left _ (List.mem_of_getElem? (l := tables_1_3) (i := 130) rfl)))) rfl
theorem tw_611 : Cond.instanceMethod ⟨"PlaceTimePlans$Line", "daysOfCrew", "(I)I"⟩ ∈ sx_T := sx_inT (List.mem_append_right _ (List.mem_append_right _ (List.mem_append_left _ (List.mem_of_getElem? (l := tables_1_3) (i := 131) rfl)))) rfl
theorem tw_612 : Cond.selects "PlaceTimePlans$Line" ⟨"PlaceTimePlans$Line", "daysOfCrew", "(I)I"⟩ ⟨"PlaceTimePlans$Line", "daysOfCrew", "(I)I"⟩ ∈ sx_T := sx_inT (List.mem_append_right _ (List.mem_append_right _ (List.mem_append_left _ (List.mem_of_getElem? (l := tables_1_3) (i := 132) rfl)))) rfl
theorem tw_613 : Cond.code ⟨"PlaceTimePlans$Line", "daysOfCrew", "(I)I"⟩ prog_3_method_12_code 4 (Option.some FieldType.int) ∈ sx_T := sx_inT (List.mem_append_right _ (List.mem_append_right _ (List.mem_append_left _ (List.mem_of_getElem? (l := tables_1_3) (i := 133) rfl)))) rfl
theorem tw_614 : Cond.methodLink "PlaceTimePlans" 195 ⟨"java/lang/Math", "max", "(II)I"⟩ ∈ sx_T := sx_inT (List.mem_append_right _ (List.mem_append_right _ (List.mem_append_left _ (List.mem_of_getElem? (l := tables_1_3) (i := 134) rfl)))) rfl
theorem tw_615 : Cond.methodLink "PlaceTimePlansLaw" 91 ⟨"PlaceTimePlans", "lone", "(I)I"⟩ ∈ sx_T := sx_inT (List.mem_append_right _ (List.mem_append_right _ (List.mem_append_left _ (List.mem_of_getElem? (l := tables_1_3) (i := 135) rfl)))) rfl
theorem tw_616 : Cond.instanceMethod ⟨"PlaceTimePlans", "lone", "(I)I"⟩ ∈ sx_T := sx_inT (List.mem_append_right _ (List.mem_append_right _ (List.mem_append_left _ (List.mem_of_getElem? (l := tables_1_3) (i := 136) rfl)))) rfl
theorem tw_617 : Cond.selects "PlaceTimePlans" ⟨"PlaceTimePlans", "lone", "(I)I"⟩ ⟨"PlaceTimePlans", "lone", "(I)I"⟩ ∈ sx_T := sx_inT (List.mem_append_right _ (List.mem_append_right _ (List.mem_append_left _ (List.mem_of_getElem? (l := tables_1_3) (i := 137) rfl)))) rfl
theorem tw_618 : Cond.code ⟨"PlaceTimePlans", "lone", "(I)I"⟩ prog_1_method_19_code 4 (Option.some FieldType.int) ∈ sx_T := sx_inT (List.mem_append_right _ (List.mem_append_right _ (List.mem_append_left _ (List.mem_of_getElem? (l := tables_1_3) (i := 138) rfl)))) rfl
theorem tw_619 : Cond.methodLink "PlaceTimePlans" 200 ⟨"PlaceTimePlans$Rules", "canStandAlone", "(I)Z"⟩ ∈ sx_T := sx_inT (List.mem_append_right _ (List.mem_append_right _ (List.mem_append_left _ (List.mem_of_getElem? (l := tables_1_3) (i := 139) rfl)))) rfl
theorem tw_620 : Cond.instanceMethod ⟨"PlaceTimePlans$Rules", "canStandAlone", "(I)Z"⟩ ∈ sx_T := sx_inT (List.mem_append_right _ (List.mem_append_right _ (List.mem_append_left _ (List.mem_of_getElem? (l := tables_1_3) (i := 140) rfl)))) rfl
theorem tw_621 : Cond.selects "PlaceTimePlans$Rules" ⟨"PlaceTimePlans$Rules", "canStandAlone", "(I)Z"⟩ ⟨"PlaceTimePlans$Rules", "canStandAlone", "(I)Z"⟩ ∈ sx_T := sx_inT (List.mem_append_right _ (List.mem_append_right _ (List.mem_append_left _ (List.mem_of_getElem? (l := tables_1_3) (i := 141) rfl)))) rfl
theorem tw_622 : Cond.code ⟨"PlaceTimePlans$Rules", "canStandAlone", "(I)Z"⟩ prog_5_method_2_code 2 (Option.some FieldType.boolean) ∈ sx_T := sx_inT (List.mem_append_right _ (List.mem_append_right _ (List.mem_append_left _ (List.mem_of_getElem? (l := tables_1_3) (i := 142) rfl)))) rfl
theorem tw_623 : Cond.methodLink "PlaceTimePlans$Rules" 33 ⟨"PlaceTimePlans$Window", "isEmpty", "()Z"⟩ ∈ sx_T := sx_inT (List.mem_append_right _ (List.mem_append_right _ (List.mem_append_left _ (List.mem_of_getElem? (l := tables_1_3) (i := 143) rfl)))) rfl
theorem tw_624 : Cond.instanceMethod ⟨"PlaceTimePlans$Window", "isEmpty", "()Z"⟩ ∈ sx_T := sx_inT (List.mem_append_right _ (List.mem_append_right _ (List.mem_append_left _ (List.mem_of_getElem? (l := tables_1_3) (i := 144) rfl)))) rfl
theorem tw_625 : Cond.selects "PlaceTimePlans$Window" ⟨"PlaceTimePlans$Window", "isEmpty", "()Z"⟩ ⟨"PlaceTimePlans$Window", "isEmpty", "()Z"⟩ ∈ sx_T := sx_inT (List.mem_append_right _ (List.mem_append_right _ (List.mem_append_left _ (List.mem_of_getElem? (l := tables_1_3) (i := 145) rfl)))) rfl
theorem tw_626 : Cond.code ⟨"PlaceTimePlans$Window", "isEmpty", "()Z"⟩ prog_8_method_6_code 1 (Option.some FieldType.boolean) ∈ sx_T := sx_inT (List.mem_append_right _ (List.mem_append_right _ (List.mem_append_left _ (List.mem_of_getElem? (l := tables_1_3) (i := 146) rfl)))) rfl
theorem tw_627 : Cond.methodLink "PlaceTimePlansLaw" 95 ⟨"PlaceTimePlans", "late", "(II)Z"⟩ ∈ sx_T := sx_inT (List.mem_append_right _ (List.mem_append_right _ (List.mem_append_left _ (List.mem_of_getElem? (l := tables_1_3) (i := 147) rfl)))) rfl
theorem tw_628 : Cond.instanceMethod ⟨"PlaceTimePlans", "late", "(II)Z"⟩ ∈ sx_T := sx_inT (List.mem_append_right _ (List.mem_append_right _ (List.mem_append_left _ (List.mem_of_getElem? (l := tables_1_3) (i := 148) rfl)))) rfl
theorem tw_629 : Cond.selects "PlaceTimePlans" ⟨"PlaceTimePlans", "late", "(II)Z"⟩ ⟨"PlaceTimePlans", "late", "(II)Z"⟩ ∈ sx_T := sx_inT (List.mem_append_right _ (List.mem_append_right _ (List.mem_append_left _ (List.mem_of_getElem? (l := tables_1_3) (i := 149) rfl)))) rfl
theorem tw_630 : Cond.code ⟨"PlaceTimePlans", "late", "(II)Z"⟩ prog_1_method_20_code 3 (Option.some FieldType.boolean) ∈ sx_T := sx_inT (List.mem_append_right _ (List.mem_append_right _ (List.mem_append_left _ (List.mem_of_getElem? (l := tables_1_3) (i := 150) rfl)))) rfl
theorem tw_631 : Cond.methodLink "PlaceTimePlansLaw" 99 ⟨"PlaceTimePlans", "freeze", "(I)I"⟩ ∈ sx_T := sx_inT (List.mem_append_right _ (List.mem_append_right _ (List.mem_append_left _ (List.mem_of_getElem? (l := tables_1_3) (i := 151) rfl)))) rfl
theorem tw_632 : Cond.instanceMethod ⟨"PlaceTimePlans", "freeze", "(I)I"⟩ ∈ sx_T := sx_inT (List.mem_append_right _ (List.mem_append_right _ (List.mem_append_left _ (List.mem_of_getElem? (l := tables_1_3) (i := 152) rfl)))) rfl
theorem tw_633 : Cond.selects "PlaceTimePlans" ⟨"PlaceTimePlans", "freeze", "(I)I"⟩ ⟨"PlaceTimePlans", "freeze", "(I)I"⟩ ∈ sx_T := sx_inT (List.mem_append_right _ (List.mem_append_right _ (List.mem_append_left _ (List.mem_of_getElem? (l := tables_1_3) (i := 153) rfl)))) rfl
theorem tw_634 : Cond.code ⟨"PlaceTimePlans", "freeze", "(I)I"⟩ prog_1_method_21_code 3 (Option.some FieldType.int) ∈ sx_T := sx_inT (List.mem_append_right _ (List.mem_append_right _ (List.mem_append_left _ (List.mem_of_getElem? (l := tables_1_3) (i := 154) rfl)))) rfl
theorem tw_635 : Cond.methodLink "PlaceTimePlans" 209 ⟨"PlaceTimePlans$Line", "frozenWorks", "()I"⟩ ∈ sx_T := sx_inT (List.mem_append_right _ (List.mem_append_right _ (List.mem_append_left _ (List.mem_of_getElem? (l := tables_1_3) (i := 155) rfl)))) rfl
theorem tw_636 : Cond.instanceMethod ⟨"PlaceTimePlans$Line", "frozenWorks", "()I"⟩ ∈ sx_T := sx_inT (List.mem_append_right _ (List.mem_append_right _ (List.mem_append_left _ (List.mem_of_getElem? (l := tables_1_3) (i := 156) rfl)))) rfl
theorem tw_637 : Cond.selects "PlaceTimePlans$Line" ⟨"PlaceTimePlans$Line", "frozenWorks", "()I"⟩ ⟨"PlaceTimePlans$Line", "frozenWorks", "()I"⟩ ∈ sx_T := sx_inT (List.mem_append_right _ (List.mem_append_right _ (List.mem_append_left _ (List.mem_of_getElem? (l := tables_1_3) (i := 157) rfl)))) rfl
theorem tw_638 : Cond.code ⟨"PlaceTimePlans$Line", "frozenWorks", "()I"⟩ prog_3_method_13_code 3 (Option.some FieldType.int) ∈ sx_T := sx_inT (List.mem_append_right _ (List.mem_append_right _ (List.mem_append_left _ (List.mem_of_getElem? (l := tables_1_3) (i := 158) rfl)))) rfl
theorem tw_639 : Cond.methodLink "PlaceTimePlansLaw" 103 ⟨"PlaceTimePlans", "replan", "(I)I"⟩ ∈ sx_T := sx_inT (List.mem_append_right _ (List.mem_append_right _ (List.mem_append_left _ (List.mem_of_getElem? (l := tables_1_3) (i := 159) rfl)))) rfl
theorem tw_640 : Cond.instanceMethod ⟨"PlaceTimePlans", "replan", "(I)I"⟩ ∈ sx_T := sx_inT (List.mem_append_right _ (List.mem_append_right _ (List.mem_append_left _ (List.mem_of_getElem? (l := tables_1_3) (i := 160) rfl)))) rfl
theorem tw_641 : Cond.selects "PlaceTimePlans" ⟨"PlaceTimePlans", "replan", "(I)I"⟩ ⟨"PlaceTimePlans", "replan", "(I)I"⟩ ∈ sx_T := sx_inT (List.mem_append_right _ (List.mem_append_right _ (List.mem_append_left _ (List.mem_of_getElem? (l := tables_1_3) (i := 161) rfl)))) rfl
theorem tw_642 : Cond.code ⟨"PlaceTimePlans", "replan", "(I)I"⟩ prog_1_method_22_code 2 (Option.some FieldType.int) ∈ sx_T := sx_inT (List.mem_append_right _ (List.mem_append_right _ (List.mem_append_left _ (List.mem_of_getElem? (l := tables_1_3) (i := 162) rfl)))) rfl
theorem tw_643 : Cond.methodLink "PlaceTimePlansLaw" 107 ⟨"PlaceTimePlans", "moved", "(I)Z"⟩ ∈ sx_T := sx_inT (List.mem_append_right _ (List.mem_append_right _ (List.mem_append_left _ (List.mem_of_getElem? (l := tables_1_3) (i := 163) rfl)))) rfl
theorem tw_644 : Cond.instanceMethod ⟨"PlaceTimePlans", "moved", "(I)Z"⟩ ∈ sx_T := sx_inT (List.mem_append_right _ (List.mem_append_right _ (List.mem_append_left _ (List.mem_of_getElem? (l := tables_1_3) (i := 164) rfl)))) rfl
theorem tw_645 : Cond.selects "PlaceTimePlans" ⟨"PlaceTimePlans", "moved", "(I)Z"⟩ ⟨"PlaceTimePlans", "moved", "(I)Z"⟩ ∈ sx_T := sx_inT (List.mem_append_right _ (List.mem_append_right _ (List.mem_append_left _ (List.mem_of_getElem? (l := tables_1_3) (i := 165) rfl)))) rfl
theorem tw_646 : Cond.code ⟨"PlaceTimePlans", "moved", "(I)Z"⟩ prog_1_method_23_code 2 (Option.some FieldType.boolean) ∈ sx_T := sx_inT (List.mem_append_right _ (List.mem_append_right _ (List.mem_append_left _ (List.mem_of_getElem? (l := tables_1_3) (i := 166) rfl)))) rfl
theorem tw_647 : Cond.methodLink "PlaceTimePlansLaw" 111 ⟨"PlaceTimePlans", "slack", "(I)I"⟩ ∈ sx_T := sx_inT (List.mem_append_right _ (List.mem_append_right _ (List.mem_append_left _ (List.mem_of_getElem? (l := tables_1_3) (i := 167) rfl)))) rfl
theorem tw_648 : Cond.instanceMethod ⟨"PlaceTimePlans", "slack", "(I)I"⟩ ∈ sx_T := sx_inT (List.mem_append_right _ (List.mem_append_right _ (List.mem_append_left _ (List.mem_of_getElem? (l := tables_1_3) (i := 168) rfl)))) rfl
theorem tw_649 : Cond.selects "PlaceTimePlans" ⟨"PlaceTimePlans", "slack", "(I)I"⟩ ⟨"PlaceTimePlans", "slack", "(I)I"⟩ ∈ sx_T := sx_inT (List.mem_append_right _ (List.mem_append_right _ (List.mem_append_left _ (List.mem_of_getElem? (l := tables_1_3) (i := 169) rfl)))) rfl
theorem tw_650 : Cond.code ⟨"PlaceTimePlans", "slack", "(I)I"⟩ prog_1_method_24_code 4 (Option.some FieldType.int) ∈ sx_T := sx_inT (List.mem_append_right _ (List.mem_append_right _ (List.mem_append_left _ (List.mem_of_getElem? (l := tables_1_3) (i := 170) rfl)))) rfl
theorem tw_651 : Cond.methodLink "PlaceTimePlans" 216 ⟨"PlaceTimePlans$Rules", "open", "(LPlaceTimePlans$Window;LPlaceTimePlans$Placing;III)V"⟩ ∈ sx_T := sx_inT (List.mem_append_right _ (List.mem_append_right _ (List.mem_append_left _ (List.mem_of_getElem? (l := tables_1_3) (i := 171) rfl)))) rfl
theorem tw_652 : Cond.methodLink "PlaceTimePlans" 220 ⟨"PlaceTimePlans", "canStartLater", "(II)Z"⟩ ∈ sx_T := sx_inT (List.mem_append_right _ (List.mem_append_right _ (List.mem_append_left _ (List.mem_of_getElem? (l := tables_1_3) (i := 172) rfl)))) rfl
theorem tw_654 : Cond.instanceMethod ⟨"PlaceTimePlans", "canStartLater", "(II)Z"⟩ ∈ sx_T := sx_inT (List.mem_append_right _ (List.mem_append_right _ (List.mem_append_left _ (List.mem_of_getElem? (l := tables_1_3) (i := 174) rfl)))) rfl
theorem tw_655 : Cond.code ⟨"PlaceTimePlans", "canStartLater", "(II)Z"⟩ prog_1_method_33_code 3 (Option.some FieldType.boolean) ∈ sx_T := sx_inT (List.mem_append_right _ (List.mem_append_right _ (List.mem_append_left _ (List.mem_of_getElem? (l := tables_1_3) (i := 175) rfl)))) rfl
theorem tw_656 : Cond.methodLink "PlaceTimePlans" 254 ⟨"PlaceTimePlans$Days", "before", "(I)I"⟩ ∈ sx_T := sx_inT (List.mem_append_right _ (List.mem_append_right _ (List.mem_append_left _ (List.mem_of_getElem? (l := tables_1_3) (i := 176) rfl)))) rfl
theorem tw_657 : Cond.methodLink "PlaceTimePlans" 257 ⟨"PlaceTimePlans$Window", "holds", "(I)Z"⟩ ∈ sx_T := sx_inT (List.mem_append_right _ (List.mem_append_right _ (List.mem_append_left _ (List.mem_of_getElem? (l := tables_1_3) (i := 177) rfl)))) rfl
theorem tw_658 : Cond.methodLink "PlaceTimePlans" 260 ⟨"PlaceTimePlans$Rules", "hasRoom", "(LPlaceTimePlans$Placing;III)Z"⟩ ∈ sx_T := sx_inT (List.mem_append_right _ (List.mem_append_right _ (List.mem_append_left _ (List.mem_of_getElem? (l := tables_1_3) (i := 178) rfl)))) rfl
theorem tw_659 : Cond.methodLink "PlaceTimePlansLaw" 115 ⟨"PlaceTimePlans", "odds", "(IIII)I"⟩ ∈ sx_T := sx_inT (List.mem_append_right _ (List.mem_append_right _ (List.mem_append_left _ (List.mem_of_getElem? (l := tables_1_3) (i := 179) rfl)))) rfl
theorem tw_660 : Cond.instanceMethod ⟨"PlaceTimePlans", "odds", "(IIII)I"⟩ ∈ sx_T := sx_inT (List.mem_append_right _ (List.mem_append_right _ (List.mem_append_left _ (List.mem_of_getElem? (l := tables_1_3) (i := 180) rfl)))) rfl
theorem tw_661 : Cond.selects "PlaceTimePlans" ⟨"PlaceTimePlans", "odds", "(IIII)I"⟩ ⟨"PlaceTimePlans", "odds", "(IIII)I"⟩ ∈ sx_T := sx_inT (List.mem_append_right _ (List.mem_append_right _ (List.mem_append_left _ (List.mem_of_getElem? (l := tables_1_3) (i := 181) rfl)))) rfl
theorem tw_662 : Cond.code ⟨"PlaceTimePlans", "odds", "(IIII)I"⟩ prog_1_method_25_code 7 (Option.some FieldType.int) ∈ sx_T := sx_inT (List.mem_append_right _ (List.mem_append_right _ (List.mem_append_left _ (List.mem_of_getElem? (l := tables_1_3) (i := 182) rfl)))) rfl
theorem tw_663 : Cond.methodLink "PlaceTimePlans" 224 ⟨"PlaceTimePlans$Weather", "begin", "(I)V"⟩ ∈ sx_T := sx_inT (List.mem_append_right _ (List.mem_append_right _ (List.mem_append_left _ (List.mem_of_getElem? (l := tables_1_3) (i := 183) rfl)))) rfl
theorem tw_664 : Cond.instanceMethod ⟨"PlaceTimePlans$Weather", "begin", "(I)V"⟩ ∈ sx_T := sx_inT (List.mem_append_right _ (List.mem_append_right _ (List.mem_append_left _ (List.mem_of_getElem? (l := tables_1_3) (i := 184) rfl)))) rfl
theorem tw_665 : Cond.selects "PlaceTimePlans$Weather" ⟨"PlaceTimePlans$Weather", "begin", "(I)V"⟩ ⟨"PlaceTimePlans$Weather", "begin", "(I)V"⟩ ∈ sx_T := sx_inT (List.mem_append_right _ (List.mem_append_right _ (List.mem_append_left _ (List.mem_of_getElem? (l := tables_1_3) (i := 185) rfl)))) rfl
theorem tw_666 : Cond.code ⟨"PlaceTimePlans$Weather", "begin", "(I)V"⟩ prog_7_method_2_code 2 none ∈ sx_T := sx_inT (List.mem_append_right _ (List.mem_append_right _ (List.mem_append_left _ (List.mem_of_getElem? (l := tables_1_3) (i := 186) rfl)))) rfl
theorem tw_667 : Cond.methodLink "PlaceTimePlans" 227 ⟨"PlaceTimePlans$Weather", "drawEnd", "(I)I"⟩ ∈ sx_T := sx_inT (List.mem_append_right _ (List.mem_append_right _ (List.mem_append_left _ (List.mem_of_getElem? (l := tables_1_3) (i := 187) rfl)))) rfl
theorem tw_668 : Cond.instanceMethod ⟨"PlaceTimePlans$Weather", "drawEnd", "(I)I"⟩ ∈ sx_T := sx_inT (List.mem_append_right _ (List.mem_append_right _ (List.mem_append_left _ (List.mem_of_getElem? (l := tables_1_3) (i := 188) rfl)))) rfl
theorem tw_669 : Cond.selects "PlaceTimePlans$Weather" ⟨"PlaceTimePlans$Weather", "drawEnd", "(I)I"⟩ ⟨"PlaceTimePlans$Weather", "drawEnd", "(I)I"⟩ ∈ sx_T := sx_inT (List.mem_append_right _ (List.mem_append_right _ (List.mem_append_left _ (List.mem_of_getElem? (l := tables_1_3) (i := 189) rfl)))) rfl
theorem tw_670 : Cond.code ⟨"PlaceTimePlans$Weather", "drawEnd", "(I)I"⟩ prog_7_method_3_code 5 (Option.some FieldType.int) ∈ sx_T := sx_inT (List.mem_append_right _ (List.mem_append_right _ (List.mem_append_left _ (List.mem_of_getElem? (l := tables_1_3) (i := 190) rfl)))) rfl
theorem tw_671 : Cond.methodLink "PlaceTimePlans$Weather" 41 ⟨"PlaceTimePlans$Weather", "drawWet", "(I)Z"⟩ ∈ sx_T := sx_inT (List.mem_append_right _ (List.mem_append_right _ (List.mem_append_left _ (List.mem_of_getElem? (l := tables_1_3) (i := 191) rfl)))) rfl
theorem tw_673 : Cond.instanceMethod ⟨"PlaceTimePlans$Weather", "drawWet", "(I)Z"⟩ ∈ sx_T := sx_inT (List.mem_append_right _ (List.mem_append_right _ (List.mem_append_left _ (List.mem_of_getElem? (l := tables_1_3) (i := 193) rfl)))) rfl
theorem tw_674 : Cond.code ⟨"PlaceTimePlans$Weather", "drawWet", "(I)Z"⟩ prog_7_method_4_code 2 (Option.some FieldType.boolean) ∈ sx_T := sx_inT (List.mem_append_right _ (List.mem_append_right _ (List.mem_append_left _ (List.mem_of_getElem? (l := tables_1_3) (i := 194) rfl)))) rfl
theorem tw_675 : Cond.constant "PlaceTimePlans$Weather" 63 1103515245 ∈ sx_T := sx_inT (List.mem_append_right _ (List.mem_append_right _ (List.mem_append_left _ (List.mem_of_getElem? (l := tables_1_3) (i := 195) rfl)))) rfl
theorem tw_676 : Cond.constant "PlaceTimePlans$Weather" 64 2147483647 ∈ sx_T := sx_inT (List.mem_append_right _ (List.mem_append_right _ (List.mem_append_left _ (List.mem_of_getElem? (l := tables_1_3) (i := 196) rfl)))) rfl
theorem tw_677 : Cond.constant "PlaceTimePlans$Weather" 65 65536 ∈ sx_T := sx_inT (List.mem_append_right _ (List.mem_append_right _ (List.mem_append_left _ (List.mem_of_getElem? (l := tables_1_3) (i := 197) rfl)))) rfl
theorem tw_678 : Cond.methodLink "PlaceTimePlans$Weather" 49 ⟨"PlaceTimePlans$Days", "isWorking", "(I)Z"⟩ ∈ sx_T := sx_inT (List.mem_append_right _ (List.mem_append_right _ (List.mem_append_left _ (List.mem_of_getElem? (l := tables_1_3) (i := 198) rfl)))) rfl
theorem tw_679 : Cond.methodLink "PlaceTimePlans$Weather" 54 ⟨"PlaceTimePlans$Weather", "goOn", "(I)Z"⟩ ∈ sx_T := sx_inT (List.mem_append_right _ (List.mem_append_right _ (List.mem_append_left _ (List.mem_of_getElem? (l := tables_1_3) (i := 199) rfl)))) rfl
theorem tw_681 : Cond.instanceMethod ⟨"PlaceTimePlans$Weather", "goOn", "(I)Z"⟩ ∈ sx_T := sx_inT (List.mem_append_right _ (List.mem_append_right _ (List.mem_append_left _ (List.mem_of_getElem? (l := tables_1_3) (i := 201) rfl)))) rfl
theorem tw_682 : Cond.code ⟨"PlaceTimePlans$Weather", "goOn", "(I)Z"⟩ prog_7_method_5_code 4 (Option.some FieldType.boolean) ∈ sx_T := sx_inT (List.mem_append_right _ (List.mem_append_right _ (List.mem_append_left _ (List.mem_of_getElem? (l := tables_1_3) (i := 202) rfl)))) rfl
theorem tw_683 : Cond.methodLink "PlaceTimePlans$Weather" 57 ⟨"java/lang/Math", "max", "(II)I"⟩ ∈ sx_T := sx_inT (List.mem_append_right _ (List.mem_append_right _ (List.mem_append_left _ (List.mem_of_getElem? (l := tables_1_3) (i := 203) rfl)))) rfl
theorem tw_684 : Cond.methodLink "PlaceTimePlansLaw" 120 ⟨"PlaceTimePlans", "count", "(I)I"⟩ ∈ sx_T := sx_inT (List.mem_append_right _ (List.mem_append_right _ (List.mem_append_left _ (List.mem_of_getElem? (l := tables_1_3) (i := 204) rfl)))) rfl
theorem tw_685 : Cond.instanceMethod ⟨"PlaceTimePlans", "count", "(I)I"⟩ ∈ sx_T := sx_inT (List.mem_append_right _ (List.mem_append_right _ (List.mem_append_left _ (List.mem_of_getElem? (l := tables_1_3) (i := 205) rfl)))) rfl
theorem tw_686 : Cond.selects "PlaceTimePlans" ⟨"PlaceTimePlans", "count", "(I)I"⟩ ⟨"PlaceTimePlans", "count", "(I)I"⟩ ∈ sx_T := sx_inT (List.mem_append_right _ (List.mem_append_right _ (List.mem_append_left _ (List.mem_of_getElem? (l := tables_1_3) (i := 206) rfl)))) rfl
theorem tw_687 : Cond.code ⟨"PlaceTimePlans", "count", "(I)I"⟩ prog_1_method_26_code 2 (Option.some FieldType.int) ∈ sx_T := sx_inT (List.mem_append_right _ (List.mem_append_right _ (List.mem_append_left _ (List.mem_of_getElem? (l := tables_1_3) (i := 207) rfl)))) rfl
theorem tw_688 : Cond.classLink "PlaceTimePlansLaw" 10 "PlaceTimePlansModel" ∈ sx_T := sx_inT (List.mem_append_right _ (List.mem_append_right _ (List.mem_append_left _ (List.mem_of_getElem? (l := tables_1_3) (i := 208) rfl)))) rfl
theorem tw_689 : Cond.instantiable "PlaceTimePlansModel" 38 ∈ sx_T := sx_inT (List.mem_append_right _ (List.mem_append_right _ (List.mem_append_left _ (List.mem_of_getElem? (l := tables_1_3) (i := 209) rfl)))) rfl
theorem tw_690 : Cond.methodLink "PlaceTimePlansLaw" 12 ⟨"PlaceTimePlansModel", "<init>", "()V"⟩ ∈ sx_T := sx_inT (List.mem_append_right _ (List.mem_append_right _ (List.mem_append_left _ (List.mem_of_getElem? (l := tables_1_3) (i := 210) rfl)))) rfl
theorem tw_691 : Cond.instanceMethod ⟨"PlaceTimePlansModel", "<init>", "()V"⟩ ∈ sx_T := sx_inT (List.mem_append_right _ (List.mem_append_right _ (List.mem_append_left _ (List.mem_of_getElem? (l := tables_1_3) (i := 211) rfl)))) rfl
theorem tw_692 : Cond.code ⟨"PlaceTimePlansModel", "<init>", "()V"⟩ prog_11_method_1_code 2 none ∈ sx_T := sx_inT (List.mem_append_right _ (List.mem_append_right _ (List.mem_append_left _ (List.mem_of_getElem? (l := tables_1_3) (i := 212) rfl)))) rfl
theorem tw_693 : Cond.methodLink "PlaceTimePlansModel" 1 ⟨"java/lang/Object", "<init>", "()V"⟩ ∈ sx_T := sx_inT (List.mem_append_right _ (List.mem_append_right _ (List.mem_append_left _ (List.mem_of_getElem? (l := tables_1_3) (i := 213) rfl)))) rfl
theorem tw_694 : Cond.fieldLink "PlaceTimePlansModel" 107 "PlaceTimePlansModel" "crews" "I" ∈ sx_T := sx_inT (List.mem_append_right _ (List.mem_append_right _ (List.mem_append_left _ (List.mem_of_getElem? (l := tables_1_3) (i := 214) rfl)))) rfl
theorem tw_695 : Cond.fieldLink "PlaceTimePlansModel" 7 "PlaceTimePlansModel" "kinds" "[I" ∈ sx_T := sx_inT (List.mem_append_right _ (List.mem_append_right _ (List.mem_append_left _ (List.mem_of_getElem? (l := tables_1_3) (i := 215) rfl)))) rfl
theorem tw_696 : Cond.fieldLink "PlaceTimePlansModel" 95 "PlaceTimePlansModel" "works" "I" ∈ sx_T := sx_inT (List.mem_append_right _ (List.mem_append_right _ (List.mem_append_left _ (List.mem_of_getElem? (l := tables_1_3) (i := 216) rfl)))) rfl
theorem tw_697 : Cond.fieldLink "PlaceTimePlansModel" 13 "PlaceTimePlansModel" "crewOf" "[I" ∈ sx_T := sx_inT (List.mem_append_right _ (List.mem_append_right _ (List.mem_append_left _ (List.mem_of_getElem? (l := tables_1_3) (i := 217) rfl)))) rfl
theorem tw_698 : Cond.fieldLink "PlaceTimePlansModel" 16 "PlaceTimePlansModel" "froms" "[I" ∈ sx_T := sx_inT (List.mem_append_right _ (List.mem_append_right _ (List.mem_append_left _ (List.mem_of_getElem? (l := tables_1_3) (i := 218) rfl)))) rfl
theorem tw_699 : Cond.fieldLink "PlaceTimePlansModel" 19 "PlaceTimePlansModel" "tos" "[I" ∈ sx_T := sx_inT (List.mem_append_right _ (List.mem_append_right _ (List.mem_append_left _ (List.mem_of_getElem? (l := tables_1_3) (i := 219) rfl)))) rfl
theorem tw_700 : Cond.fieldLink "PlaceTimePlansModel" 22 "PlaceTimePlansModel" "speeds" "[I" ∈ sx_T := sx_inT (List.mem_append_right _ (List.mem_append_right _ (List.mem_append_left _ (List.mem_of_getElem? (l := tables_1_3) (i := 220) rfl)))) rfl
theorem tw_701 : Cond.fieldLink "PlaceTimePlansModel" 25 "PlaceTimePlansModel" "both" "[Z" ∈ sx_T := sx_inT (List.mem_append_right _ (List.mem_append_right _ (List.mem_append_left _ (List.mem_of_getElem? (l := tables_1_3) (i := 221) rfl)))) rfl
theorem tw_702 : Cond.fieldLink "PlaceTimePlansModel" 29 "PlaceTimePlansModel" "gaps" "[I" ∈ sx_T := sx_inT (List.mem_append_right _ (List.mem_append_right _ (List.mem_append_left _ (List.mem_of_getElem? (l := tables_1_3) (i := 222) rfl)))) rfl
theorem tw_703 : Cond.fieldLink "PlaceTimePlansModel" 32 "PlaceTimePlansModel" "firsts" "[I" ∈ sx_T := sx_inT (List.mem_append_right _ (List.mem_append_right _ (List.mem_append_left _ (List.mem_of_getElem? (l := tables_1_3) (i := 223) rfl)))) rfl
theorem tw_704 : Cond.fieldLink "PlaceTimePlansModel" 35 "PlaceTimePlansModel" "lasts" "[I" ∈ sx_T := sx_inT (List.mem_append_right _ (List.mem_append_right _ (List.mem_append_left _ (List.mem_of_getElem? (l := tables_1_3) (i := 224) rfl)))) rfl
theorem tw_705 : Cond.fieldLink "PlaceTimePlansModel" 117 "PlaceTimePlansModel" "bars" "I" ∈ sx_T := sx_inT (List.mem_append_right _ (List.mem_append_right _ (List.mem_append_left _ (List.mem_of_getElem? (l := tables_1_3) (i := 225) rfl)))) rfl
theorem tw_706 : Cond.fieldLink "PlaceTimePlansModel" 38 "PlaceTimePlansModel" "barWork" "[I" ∈ sx_T := sx_inT (List.mem_append_right _ (List.mem_append_right _ (List.mem_append_left _ (List.mem_of_getElem? (l := tables_1_3) (i := 226) rfl)))) rfl
theorem tw_707 : Cond.fieldLink "PlaceTimePlansModel" 41 "PlaceTimePlansModel" "barPlace" "[I" ∈ sx_T := sx_inT (List.mem_append_right _ (List.mem_append_right _ (List.mem_append_left _ (List.mem_of_getElem? (l := tables_1_3) (i := 227) rfl)))) rfl
theorem tw_708 : Cond.fieldLink "PlaceTimePlansModel" 44 "PlaceTimePlansModel" "barUntil" "[I" ∈ sx_T := sx_inT (List.mem_append_right _ (List.mem_append_right _ (List.mem_append_left _ (List.mem_of_getElem? (l := tables_1_3) (i := 228) rfl)))) rfl
theorem tw_709 : Cond.fieldLink "PlaceTimePlansModel" 120 "PlaceTimePlansModel" "rests" "I" ∈ sx_T := sx_inT (List.mem_append_right _ (List.mem_append_right _ (List.mem_append_left _ (List.mem_of_getElem? (l := tables_1_3) (i := 229) rfl)))) rfl
theorem tw_710 : Cond.fieldLink "PlaceTimePlansModel" 47 "PlaceTimePlansModel" "rest" "[Z" ∈ sx_T := sx_inT (List.mem_append_right _ (List.mem_append_right _ (List.mem_append_left _ (List.mem_of_getElem? (l := tables_1_3) (i := 230) rfl)))) rfl
theorem tw_711 : Cond.fieldLink "PlaceTimePlansModel" 50 "PlaceTimePlansModel" "wet" "[Z" ∈ sx_T := sx_inT (List.mem_append_right _ (List.mem_append_right _ (List.mem_append_left _ (List.mem_of_getElem? (l := tables_1_3) (i := 231) rfl)))) rfl
theorem tw_712 : Cond.fieldLink "PlaceTimePlansModel" 53 "PlaceTimePlansModel" "most" "[I" ∈ sx_T := sx_inT (List.mem_append_right _ (List.mem_append_right _ (List.mem_append_left _ (List.mem_of_getElem? (l := tables_1_3) (i := 232) rfl)))) rfl
theorem tw_713 : Cond.fieldLink "PlaceTimePlansModel" 99 "PlaceTimePlansModel" "has" "Z" ∈ sx_T := sx_inT (List.mem_append_right _ (List.mem_append_right _ (List.mem_append_left _ (List.mem_of_getElem? (l := tables_1_3) (i := 233) rfl)))) rfl
theorem tw_714 : Cond.fieldLink "PlaceTimePlansModel" 56 "PlaceTimePlansModel" "starts" "[I" ∈ sx_T := sx_inT (List.mem_append_right _ (List.mem_append_right _ (List.mem_append_left _ (List.mem_of_getElem? (l := tables_1_3) (i := 234) rfl)))) rfl
theorem tw_715 : Cond.fieldLink "PlaceTimePlansModel" 59 "PlaceTimePlansModel" "ways" "[I" ∈ sx_T := sx_inT (List.mem_append_right _ (List.mem_append_right _ (List.mem_append_left _ (List.mem_of_getElem? (l := tables_1_3) (i := 235) rfl)))) rfl
theorem tw_716 : Cond.fieldLink "PlaceTimePlansModel" 62 "PlaceTimePlansModel" "frozen" "[Z" ∈ sx_T := sx_inT (List.mem_append_right _ (List.mem_append_right _ (List.mem_append_left _ (List.mem_of_getElem? (l := tables_1_3) (i := 236) rfl)))) rfl
theorem tw_717 : Cond.fieldLink "PlaceTimePlansModel" 65 "PlaceTimePlansModel" "lates" "[I" ∈ sx_T := sx_inT (List.mem_append_right _ (List.mem_append_right _ (List.mem_append_left _ (List.mem_of_getElem? (l := tables_1_3) (i := 237) rfl)))) rfl
theorem tw_718 : Cond.fieldLink "PlaceTimePlansModel" 68 "PlaceTimePlansModel" "moved" "[Z" ∈ sx_T := sx_inT (List.mem_append_right _ (List.mem_append_right _ (List.mem_append_left _ (List.mem_of_getElem? (l := tables_1_3) (i := 238) rfl)))) rfl
theorem tw_719 : Cond.fieldLink "PlaceTimePlansModel" 180 "PlaceTimePlansModel" "proved" "Z" ∈ sx_T := sx_inT (List.mem_append_right _ (List.mem_append_right _ (List.mem_append_left _ (List.mem_of_getElem? (l := tables_1_3) (i := 239) rfl)))) rfl
theorem tw_720 : Cond.fieldLink "PlaceTimePlansModel" 170 "PlaceTimePlansModel" "tried" "I" ∈ sx_T := sx_inT (List.mem_append_right _ (List.mem_append_right _ (List.mem_append_right _ (List.mem_append_left _ (List.mem_of_getElem? (l := tables_1_4) (i := 0) rfl))))) rfl
theorem tw_721 : Cond.fieldLink "PlaceTimePlansModel" 71 "PlaceTimePlansModel" "begin" "[I" ∈ sx_T := sx_inT (List.mem_append_right _ (List.mem_append_right _ (List.mem_append_right _ (List.mem_append_left _ (List.mem_of_getElem? (l := tables_1_4) (i := 1) rfl))))) rfl
theorem tw_722 : Cond.fieldLink "PlaceTimePlansModel" 74 "PlaceTimePlansModel" "way" "[I" ∈ sx_T := sx_inT (List.mem_append_right _ (List.mem_append_right _ (List.mem_append_right _ (List.mem_append_left _ (List.mem_of_getElem? (l := tables_1_4) (i := 2) rfl))))) rfl
theorem tw_723 : Cond.fieldLink "PlaceTimePlansModel" 77 "PlaceTimePlansModel" "end" "[I" ∈ sx_T := sx_inT (List.mem_append_right _ (List.mem_append_right _ (List.mem_append_right _ (List.mem_append_left _ (List.mem_of_getElem? (l := tables_1_4) (i := 3) rfl))))) rfl
theorem tw_724 : Cond.fieldLink "PlaceTimePlansModel" 80 "PlaceTimePlansModel" "arrive" "[I" ∈ sx_T := sx_inT (List.mem_append_right _ (List.mem_append_right _ (List.mem_append_right _ (List.mem_append_left _ (List.mem_of_getElem? (l := tables_1_4) (i := 4) rfl))))) rfl
theorem tw_725 : Cond.fieldLink "PlaceTimePlansModel" 83 "PlaceTimePlansModel" "leave" "[I" ∈ sx_T := sx_inT (List.mem_append_right _ (List.mem_append_right _ (List.mem_append_right _ (List.mem_append_left _ (List.mem_of_getElem? (l := tables_1_4) (i := 5) rfl))))) rfl
theorem tw_726 : Cond.fieldLink "PlaceTimePlansModel" 86 "PlaceTimePlansModel" "nextTry" "[I" ∈ sx_T := sx_inT (List.mem_append_right _ (List.mem_append_right _ (List.mem_append_right _ (List.mem_append_left _ (List.mem_of_getElem? (l := tables_1_4) (i := 6) rfl))))) rfl
theorem tw_727 : Cond.fieldLink "PlaceTimePlansModel" 144 "PlaceTimePlansModel" "hasBest" "Z" ∈ sx_T := sx_inT (List.mem_append_right _ (List.mem_append_right _ (List.mem_append_right _ (List.mem_append_left _ (List.mem_of_getElem? (l := tables_1_4) (i := 7) rfl))))) rfl
theorem tw_728 : Cond.fieldLink "PlaceTimePlansModel" 150 "PlaceTimePlansModel" "bestEnd" "I" ∈ sx_T := sx_inT (List.mem_append_right _ (List.mem_append_right _ (List.mem_append_right _ (List.mem_append_left _ (List.mem_of_getElem? (l := tables_1_4) (i := 8) rfl))))) rfl
theorem tw_729 : Cond.fieldLink "PlaceTimePlansModel" 156 "PlaceTimePlansModel" "bestMoved" "I" ∈ sx_T := sx_inT (List.mem_append_right _ (List.mem_append_right _ (List.mem_append_right _ (List.mem_append_left _ (List.mem_of_getElem? (l := tables_1_4) (i := 9) rfl))))) rfl
theorem tw_730 : Cond.fieldLink "PlaceTimePlansModel" 89 "PlaceTimePlansModel" "bestStart" "[I" ∈ sx_T := sx_inT (List.mem_append_right _ (List.mem_append_right _ (List.mem_append_right _ (List.mem_append_left _ (List.mem_of_getElem? (l := tables_1_4) (i := 10) rfl))))) rfl
theorem tw_731 : Cond.fieldLink "PlaceTimePlansModel" 92 "PlaceTimePlansModel" "bestWay" "[I" ∈ sx_T := sx_inT (List.mem_append_right _ (List.mem_append_right _ (List.mem_append_right _ (List.mem_append_left _ (List.mem_of_getElem? (l := tables_1_4) (i := 11) rfl))))) rfl
theorem tw_809 : Cond.methodLink "PlaceTimePlansLaw" 17 ⟨"PlaceTimePlansModel", "crew", "(I)I"⟩ ∈ sx_T := sx_inT (List.mem_append_right _ (List.mem_append_right _ (List.mem_append_right _ (List.mem_append_left _ (List.mem_of_getElem? (l := tables_1_4) (i := 89) rfl))))) rfl
theorem tw_810 : Cond.instanceMethod ⟨"PlaceTimePlansModel", "crew", "(I)I"⟩ ∈ sx_T := sx_inT (List.mem_append_right _ (List.mem_append_right _ (List.mem_append_right _ (List.mem_append_left _ (List.mem_of_getElem? (l := tables_1_4) (i := 90) rfl))))) rfl
theorem tw_811 : Cond.selects "PlaceTimePlansModel" ⟨"PlaceTimePlansModel", "crew", "(I)I"⟩ ⟨"PlaceTimePlansModel", "crew", "(I)I"⟩ ∈ sx_T := sx_inT (List.mem_append_right _ (List.mem_append_right _ (List.mem_append_right _ (List.mem_append_left _ (List.mem_of_getElem? (l := tables_1_4) (i := 91) rfl))))) rfl
theorem tw_812 : Cond.code ⟨"PlaceTimePlansModel", "crew", "(I)I"⟩ prog_11_method_5_code 2 (Option.some FieldType.int) ∈ sx_T := sx_inT (List.mem_append_right _ (List.mem_append_right _ (List.mem_append_right _ (List.mem_append_left _ (List.mem_of_getElem? (l := tables_1_4) (i := 92) rfl))))) rfl
theorem tw_813 : Cond.methodLink "PlaceTimePlansModel" 103 ⟨"PlaceTimePlansModel", "within", "(III)Z"⟩ ∈ sx_T := sx_inT (List.mem_append_right _ (List.mem_append_right _ (List.mem_append_right _ (List.mem_append_left _ (List.mem_of_getElem? (l := tables_1_4) (i := 93) rfl))))) rfl
theorem tw_814 : Cond.static ⟨"PlaceTimePlansModel", "within", "(III)Z"⟩ ∈ sx_T := sx_inT (List.mem_append_right _ (List.mem_append_right _ (List.mem_append_right _ (List.mem_append_left _ (List.mem_of_getElem? (l := tables_1_4) (i := 94) rfl))))) rfl
theorem tw_815 : Cond.code ⟨"PlaceTimePlansModel", "within", "(III)Z"⟩ prog_11_method_2_code 3 (Option.some FieldType.boolean) ∈ sx_T := sx_inT (List.mem_append_right _ (List.mem_append_right _ (List.mem_append_right _ (List.mem_append_left _ (List.mem_of_getElem? (l := tables_1_4) (i := 95) rfl))))) rfl
theorem tw_816 : Cond.methodLink "PlaceTimePlansModel" 110 ⟨"PlaceTimePlansModel", "changed", "()V"⟩ ∈ sx_T := sx_inT (List.mem_append_right _ (List.mem_append_right _ (List.mem_append_right _ (List.mem_append_left _ (List.mem_of_getElem? (l := tables_1_4) (i := 96) rfl))))) rfl
theorem tw_818 : Cond.instanceMethod ⟨"PlaceTimePlansModel", "changed", "()V"⟩ ∈ sx_T := sx_inT (List.mem_append_right _ (List.mem_append_right _ (List.mem_append_right _ (List.mem_append_left _ (List.mem_of_getElem? (l := tables_1_4) (i := 98) rfl))))) rfl
theorem tw_819 : Cond.code ⟨"PlaceTimePlansModel", "changed", "()V"⟩ prog_11_method_4_code 2 none ∈ sx_T := sx_inT (List.mem_append_right _ (List.mem_append_right _ (List.mem_append_right _ (List.mem_append_left _ (List.mem_of_getElem? (l := tables_1_4) (i := 99) rfl))))) rfl
theorem tw_820 : Cond.methodLink "PlaceTimePlansLaw" 22 ⟨"PlaceTimePlansModel", "work", "(IIIIZ)I"⟩ ∈ sx_T := sx_inT (List.mem_append_right _ (List.mem_append_right _ (List.mem_append_right _ (List.mem_append_left _ (List.mem_of_getElem? (l := tables_1_4) (i := 100) rfl))))) rfl
theorem tw_821 : Cond.instanceMethod ⟨"PlaceTimePlansModel", "work", "(IIIIZ)I"⟩ ∈ sx_T := sx_inT (List.mem_append_right _ (List.mem_append_right _ (List.mem_append_right _ (List.mem_append_left _ (List.mem_of_getElem? (l := tables_1_4) (i := 101) rfl))))) rfl
theorem tw_822 : Cond.selects "PlaceTimePlansModel" ⟨"PlaceTimePlansModel", "work", "(IIIIZ)I"⟩ ⟨"PlaceTimePlansModel", "work", "(IIIIZ)I"⟩ ∈ sx_T := sx_inT (List.mem_append_right _ (List.mem_append_right _ (List.mem_append_right _ (List.mem_append_left _ (List.mem_of_getElem? (l := tables_1_4) (i := 102) rfl))))) rfl
theorem tw_823 : Cond.code ⟨"PlaceTimePlansModel", "work", "(IIIIZ)I"⟩ prog_11_method_6_code 7 (Option.some FieldType.int) ∈ sx_T := sx_inT (List.mem_append_right _ (List.mem_append_right _ (List.mem_append_right _ (List.mem_append_left _ (List.mem_of_getElem? (l := tables_1_4) (i := 103) rfl))))) rfl
theorem tw_824 : Cond.methodLink "PlaceTimePlansLaw" 27 ⟨"PlaceTimePlansModel", "after", "(III)Z"⟩ ∈ sx_T := sx_inT (List.mem_append_right _ (List.mem_append_right _ (List.mem_append_right _ (List.mem_append_left _ (List.mem_of_getElem? (l := tables_1_4) (i := 104) rfl))))) rfl
theorem tw_825 : Cond.instanceMethod ⟨"PlaceTimePlansModel", "after", "(III)Z"⟩ ∈ sx_T := sx_inT (List.mem_append_right _ (List.mem_append_right _ (List.mem_append_right _ (List.mem_append_left _ (List.mem_of_getElem? (l := tables_1_4) (i := 105) rfl))))) rfl
theorem tw_826 : Cond.selects "PlaceTimePlansModel" ⟨"PlaceTimePlansModel", "after", "(III)Z"⟩ ⟨"PlaceTimePlansModel", "after", "(III)Z"⟩ ∈ sx_T := sx_inT (List.mem_append_right _ (List.mem_append_right _ (List.mem_append_right _ (List.mem_append_left _ (List.mem_of_getElem? (l := tables_1_4) (i := 106) rfl))))) rfl
theorem tw_827 : Cond.code ⟨"PlaceTimePlansModel", "after", "(III)Z"⟩ prog_11_method_7_code 4 (Option.some FieldType.boolean) ∈ sx_T := sx_inT (List.mem_append_right _ (List.mem_append_right _ (List.mem_append_right _ (List.mem_append_left _ (List.mem_of_getElem? (l := tables_1_4) (i := 107) rfl))))) rfl
theorem tw_828 : Cond.methodLink "PlaceTimePlansModel" 113 ⟨"PlaceTimePlansModel", "isWork", "(I)Z"⟩ ∈ sx_T := sx_inT (List.mem_append_right _ (List.mem_append_right _ (List.mem_append_right _ (List.mem_append_left _ (List.mem_of_getElem? (l := tables_1_4) (i := 108) rfl))))) rfl
theorem tw_830 : Cond.instanceMethod ⟨"PlaceTimePlansModel", "isWork", "(I)Z"⟩ ∈ sx_T := sx_inT (List.mem_append_right _ (List.mem_append_right _ (List.mem_append_right _ (List.mem_append_left _ (List.mem_of_getElem? (l := tables_1_4) (i := 110) rfl))))) rfl
theorem tw_831 : Cond.code ⟨"PlaceTimePlansModel", "isWork", "(I)Z"⟩ prog_11_method_3_code 2 (Option.some FieldType.boolean) ∈ sx_T := sx_inT (List.mem_append_right _ (List.mem_append_right _ (List.mem_append_right _ (List.mem_append_left _ (List.mem_of_getElem? (l := tables_1_4) (i := 111) rfl))))) rfl
theorem tw_832 : Cond.methodLink "PlaceTimePlansLaw" 31 ⟨"PlaceTimePlansModel", "season", "(III)Z"⟩ ∈ sx_T := sx_inT (List.mem_append_right _ (List.mem_append_right _ (List.mem_append_right _ (List.mem_append_left _ (List.mem_of_getElem? (l := tables_1_4) (i := 112) rfl))))) rfl
theorem tw_833 : Cond.instanceMethod ⟨"PlaceTimePlansModel", "season", "(III)Z"⟩ ∈ sx_T := sx_inT (List.mem_append_right _ (List.mem_append_right _ (List.mem_append_right _ (List.mem_append_left _ (List.mem_of_getElem? (l := tables_1_4) (i := 113) rfl))))) rfl
theorem tw_834 : Cond.selects "PlaceTimePlansModel" ⟨"PlaceTimePlansModel", "season", "(III)Z"⟩ ⟨"PlaceTimePlansModel", "season", "(III)Z"⟩ ∈ sx_T := sx_inT (List.mem_append_right _ (List.mem_append_right _ (List.mem_append_right _ (List.mem_append_left _ (List.mem_of_getElem? (l := tables_1_4) (i := 114) rfl))))) rfl
theorem tw_835 : Cond.code ⟨"PlaceTimePlansModel", "season", "(III)Z"⟩ prog_11_method_8_code 4 (Option.some FieldType.boolean) ∈ sx_T := sx_inT (List.mem_append_right _ (List.mem_append_right _ (List.mem_append_right _ (List.mem_append_left _ (List.mem_of_getElem? (l := tables_1_4) (i := 115) rfl))))) rfl
theorem tw_836 : Cond.methodLink "PlaceTimePlansLaw" 35 ⟨"PlaceTimePlansModel", "bar", "(III)Z"⟩ ∈ sx_T := sx_inT (List.mem_append_right _ (List.mem_append_right _ (List.mem_append_right _ (List.mem_append_left _ (List.mem_of_getElem? (l := tables_1_4) (i := 116) rfl))))) rfl
theorem tw_837 : Cond.instanceMethod ⟨"PlaceTimePlansModel", "bar", "(III)Z"⟩ ∈ sx_T := sx_inT (List.mem_append_right _ (List.mem_append_right _ (List.mem_append_right _ (List.mem_append_left _ (List.mem_of_getElem? (l := tables_1_4) (i := 117) rfl))))) rfl
theorem tw_838 : Cond.selects "PlaceTimePlansModel" ⟨"PlaceTimePlansModel", "bar", "(III)Z"⟩ ⟨"PlaceTimePlansModel", "bar", "(III)Z"⟩ ∈ sx_T := sx_inT (List.mem_append_right _ (List.mem_append_right _ (List.mem_append_right _ (List.mem_append_left _ (List.mem_of_getElem? (l := tables_1_4) (i := 118) rfl))))) rfl
theorem tw_839 : Cond.code ⟨"PlaceTimePlansModel", "bar", "(III)Z"⟩ prog_11_method_9_code 4 (Option.some FieldType.boolean) ∈ sx_T := sx_inT (List.mem_append_right _ (List.mem_append_right _ (List.mem_append_right _ (List.mem_append_left _ (List.mem_of_getElem? (l := tables_1_4) (i := 119) rfl))))) rfl
theorem tw_840 : Cond.methodLink "PlaceTimePlansLaw" 40 ⟨"PlaceTimePlansModel", "rest", "(I)Z"⟩ ∈ sx_T := sx_inT (List.mem_append_right _ (List.mem_append_right _ (List.mem_append_right _ (List.mem_append_left _ (List.mem_of_getElem? (l := tables_1_4) (i := 120) rfl))))) rfl
theorem tw_841 : Cond.instanceMethod ⟨"PlaceTimePlansModel", "rest", "(I)Z"⟩ ∈ sx_T := sx_inT (List.mem_append_right _ (List.mem_append_right _ (List.mem_append_right _ (List.mem_append_left _ (List.mem_of_getElem? (l := tables_1_4) (i := 121) rfl))))) rfl
theorem tw_842 : Cond.selects "PlaceTimePlansModel" ⟨"PlaceTimePlansModel", "rest", "(I)Z"⟩ ⟨"PlaceTimePlansModel", "rest", "(I)Z"⟩ ∈ sx_T := sx_inT (List.mem_append_right _ (List.mem_append_right _ (List.mem_append_right _ (List.mem_append_left _ (List.mem_of_getElem? (l := tables_1_4) (i := 122) rfl))))) rfl
theorem tw_843 : Cond.code ⟨"PlaceTimePlansModel", "rest", "(I)Z"⟩ prog_11_method_10_code 2 (Option.some FieldType.boolean) ∈ sx_T := sx_inT (List.mem_append_right _ (List.mem_append_right _ (List.mem_append_right _ (List.mem_append_left _ (List.mem_of_getElem? (l := tables_1_4) (i := 123) rfl))))) rfl
theorem tw_844 : Cond.methodLink "PlaceTimePlansLaw" 45 ⟨"PlaceTimePlansModel", "most", "(II)I"⟩ ∈ sx_T := sx_inT (List.mem_append_right _ (List.mem_append_right _ (List.mem_append_right _ (List.mem_append_left _ (List.mem_of_getElem? (l := tables_1_4) (i := 124) rfl))))) rfl
theorem tw_845 : Cond.instanceMethod ⟨"PlaceTimePlansModel", "most", "(II)I"⟩ ∈ sx_T := sx_inT (List.mem_append_right _ (List.mem_append_right _ (List.mem_append_right _ (List.mem_append_left _ (List.mem_of_getElem? (l := tables_1_4) (i := 125) rfl))))) rfl
theorem tw_846 : Cond.selects "PlaceTimePlansModel" ⟨"PlaceTimePlansModel", "most", "(II)I"⟩ ⟨"PlaceTimePlansModel", "most", "(II)I"⟩ ∈ sx_T := sx_inT (List.mem_append_right _ (List.mem_append_right _ (List.mem_append_right _ (List.mem_append_left _ (List.mem_of_getElem? (l := tables_1_4) (i := 126) rfl))))) rfl
theorem tw_847 : Cond.code ⟨"PlaceTimePlansModel", "most", "(II)I"⟩ prog_11_method_11_code 4 (Option.some FieldType.int) ∈ sx_T := sx_inT (List.mem_append_right _ (List.mem_append_right _ (List.mem_append_right _ (List.mem_append_left _ (List.mem_of_getElem? (l := tables_1_4) (i := 127) rfl))))) rfl
theorem tw_848 : Cond.methodLink "PlaceTimePlansLaw" 50 ⟨"PlaceTimePlansModel", "learned", "(III)I"⟩ ∈ sx_T := sx_inT (List.mem_append_right _ (List.mem_append_right _ (List.mem_append_right _ (List.mem_append_left _ (List.mem_of_getElem? (l := tables_1_4) (i := 128) rfl))))) rfl
theorem tw_849 : Cond.instanceMethod ⟨"PlaceTimePlansModel", "learned", "(III)I"⟩ ∈ sx_T := sx_inT (List.mem_append_right _ (List.mem_append_right _ (List.mem_append_right _ (List.mem_append_left _ (List.mem_of_getElem? (l := tables_1_4) (i := 129) rfl))))) rfl
theorem tw_850 : Cond.selects "PlaceTimePlansModel" ⟨"PlaceTimePlansModel", "learned", "(III)I"⟩ ⟨"PlaceTimePlansModel", "learned", "(III)I"⟩ ∈ sx_T := sx_inT (List.mem_append_right _ (List.mem_append_right _ (List.mem_append_right _ (List.mem_append_left _ (List.mem_of_getElem? (l := tables_1_4) (i := 130) rfl))))) rfl
theorem tw_851 : Cond.code ⟨"PlaceTimePlansModel", "learned", "(III)I"⟩ prog_11_method_12_code 5 (Option.some FieldType.int) ∈ sx_T := sx_inT (List.mem_append_right _ (List.mem_append_right _ (List.mem_append_right _ (List.mem_append_left _ (List.mem_of_getElem? (l := tables_1_4) (i := 131) rfl))))) rfl
theorem tw_852 : Cond.methodLink "PlaceTimePlansLaw" 54 ⟨"PlaceTimePlansModel", "run", "(I)I"⟩ ∈ sx_T := sx_inT (List.mem_append_right _ (List.mem_append_right _ (List.mem_append_right _ (List.mem_append_left _ (List.mem_of_getElem? (l := tables_1_4) (i := 132) rfl))))) rfl
theorem tw_853 : Cond.instanceMethod ⟨"PlaceTimePlansModel", "run", "(I)I"⟩ ∈ sx_T := sx_inT (List.mem_append_right _ (List.mem_append_right _ (List.mem_append_right _ (List.mem_append_left _ (List.mem_of_getElem? (l := tables_1_4) (i := 133) rfl))))) rfl
theorem tw_854 : Cond.selects "PlaceTimePlansModel" ⟨"PlaceTimePlansModel", "run", "(I)I"⟩ ⟨"PlaceTimePlansModel", "run", "(I)I"⟩ ∈ sx_T := sx_inT (List.mem_append_right _ (List.mem_append_right _ (List.mem_append_right _ (List.mem_append_left _ (List.mem_of_getElem? (l := tables_1_4) (i := 134) rfl))))) rfl
theorem tw_855 : Cond.code ⟨"PlaceTimePlansModel", "run", "(I)I"⟩ prog_11_method_28_code 2 (Option.some FieldType.int) ∈ sx_T := sx_inT (List.mem_append_right _ (List.mem_append_right _ (List.mem_append_right _ (List.mem_append_left _ (List.mem_of_getElem? (l := tables_1_4) (i := 135) rfl))))) rfl
theorem tw_856 : Cond.methodLink "PlaceTimePlansModel" 183 ⟨"PlaceTimePlansModel", "search", "(IZ)V"⟩ ∈ sx_T := sx_inT (List.mem_append_right _ (List.mem_append_right _ (List.mem_append_right _ (List.mem_append_left _ (List.mem_of_getElem? (l := tables_1_4) (i := 136) rfl))))) rfl
theorem tw_858 : Cond.instanceMethod ⟨"PlaceTimePlansModel", "search", "(IZ)V"⟩ ∈ sx_T := sx_inT (List.mem_append_right _ (List.mem_append_right _ (List.mem_append_right _ (List.mem_append_left _ (List.mem_of_getElem? (l := tables_1_4) (i := 138) rfl))))) rfl
theorem tw_859 : Cond.code ⟨"PlaceTimePlansModel", "search", "(IZ)V"⟩ prog_11_method_26_code 6 none ∈ sx_T := sx_inT (List.mem_append_right _ (List.mem_append_right _ (List.mem_append_right _ (List.mem_append_left _ (List.mem_of_getElem? (l := tables_1_4) (i := 139) rfl))))) rfl
theorem tw_860 : Cond.methodLink "PlaceTimePlansModel" 173 ⟨"PlaceTimePlansModel", "triesOf", "(I)I"⟩ ∈ sx_T := sx_inT (List.mem_append_right _ (List.mem_append_right _ (List.mem_append_right _ (List.mem_append_left _ (List.mem_of_getElem? (l := tables_1_4) (i := 140) rfl))))) rfl
theorem tw_862 : Cond.instanceMethod ⟨"PlaceTimePlansModel", "triesOf", "(I)I"⟩ ∈ sx_T := sx_inT (List.mem_append_right _ (List.mem_append_right _ (List.mem_append_right _ (List.mem_append_left _ (List.mem_of_getElem? (l := tables_1_4) (i := 142) rfl))))) rfl
theorem tw_863 : Cond.code ⟨"PlaceTimePlansModel", "triesOf", "(I)I"⟩ prog_11_method_21_code 2 (Option.some FieldType.int) ∈ sx_T := sx_inT (List.mem_append_right _ (List.mem_append_right _ (List.mem_append_right _ (List.mem_append_left _ (List.mem_of_getElem? (l := tables_1_4) (i := 143) rfl))))) rfl
theorem tw_864 : Cond.methodLink "PlaceTimePlansModel" 176 ⟨"PlaceTimePlansModel", "goesOn", "(IIZ)Z"⟩ ∈ sx_T := sx_inT (List.mem_append_right _ (List.mem_append_right _ (List.mem_append_right _ (List.mem_append_left _ (List.mem_of_getElem? (l := tables_1_4) (i := 144) rfl))))) rfl
theorem tw_866 : Cond.instanceMethod ⟨"PlaceTimePlansModel", "goesOn", "(IIZ)Z"⟩ ∈ sx_T := sx_inT (List.mem_append_right _ (List.mem_append_right _ (List.mem_append_right _ (List.mem_append_left _ (List.mem_of_getElem? (l := tables_1_4) (i := 146) rfl))))) rfl
theorem tw_867 : Cond.code ⟨"PlaceTimePlansModel", "goesOn", "(IIZ)Z"⟩ prog_11_method_25_code 6 (Option.some FieldType.boolean) ∈ sx_T := sx_inT (List.mem_append_right _ (List.mem_append_right _ (List.mem_append_right _ (List.mem_append_left _ (List.mem_of_getElem? (l := tables_1_4) (i := 147) rfl))))) rfl
theorem tw_868 : Cond.methodLink "PlaceTimePlansModel" 123 ⟨"PlaceTimePlansModel", "isRest", "(I)Z"⟩ ∈ sx_T := sx_inT (List.mem_append_right _ (List.mem_append_right _ (List.mem_append_right _ (List.mem_append_left _ (List.mem_of_getElem? (l := tables_1_4) (i := 148) rfl))))) rfl
theorem tw_870 : Cond.instanceMethod ⟨"PlaceTimePlansModel", "isRest", "(I)Z"⟩ ∈ sx_T := sx_inT (List.mem_append_right _ (List.mem_append_right _ (List.mem_append_right _ (List.mem_append_left _ (List.mem_of_getElem? (l := tables_1_4) (i := 150) rfl))))) rfl
theorem tw_871 : Cond.code ⟨"PlaceTimePlansModel", "isRest", "(I)Z"⟩ prog_11_method_13_code 2 (Option.some FieldType.boolean) ∈ sx_T := sx_inT (List.mem_append_right _ (List.mem_append_right _ (List.mem_append_right _ (List.mem_append_left _ (List.mem_of_getElem? (l := tables_1_4) (i := 151) rfl))))) rfl
theorem tw_872 : Cond.methodLink "PlaceTimePlansModel" 159 ⟨"PlaceTimePlansModel", "lay", "(IIII)V"⟩ ∈ sx_T := sx_inT (List.mem_append_right _ (List.mem_append_right _ (List.mem_append_right _ (List.mem_append_left _ (List.mem_of_getElem? (l := tables_1_4) (i := 152) rfl))))) rfl
theorem tw_874 : Cond.instanceMethod ⟨"PlaceTimePlansModel", "lay", "(IIII)V"⟩ ∈ sx_T := sx_inT (List.mem_append_right _ (List.mem_append_right _ (List.mem_append_right _ (List.mem_append_left _ (List.mem_of_getElem? (l := tables_1_4) (i := 154) rfl))))) rfl
theorem tw_875 : Cond.code ⟨"PlaceTimePlansModel", "lay", "(IIII)V"⟩ prog_11_method_15_code 11 none ∈ sx_T := sx_inT (List.mem_append_right _ (List.mem_append_right _ (List.mem_append_right _ (List.mem_append_left _ (List.mem_of_getElem? (l := tables_1_4) (i := 155) rfl))))) rfl
theorem tw_876 : Cond.methodLink "PlaceTimePlansModel" 126 ⟨"PlaceTimePlansModel", "nextDay", "(I)I"⟩ ∈ sx_T := sx_inT (List.mem_append_right _ (List.mem_append_right _ (List.mem_append_right _ (List.mem_append_left _ (List.mem_of_getElem? (l := tables_1_4) (i := 156) rfl))))) rfl
theorem tw_878 : Cond.instanceMethod ⟨"PlaceTimePlansModel", "nextDay", "(I)I"⟩ ∈ sx_T := sx_inT (List.mem_append_right _ (List.mem_append_right _ (List.mem_append_right _ (List.mem_append_left _ (List.mem_of_getElem? (l := tables_1_4) (i := 158) rfl))))) rfl
theorem tw_879 : Cond.code ⟨"PlaceTimePlansModel", "nextDay", "(I)I"⟩ prog_11_method_14_code 3 (Option.some FieldType.int) ∈ sx_T := sx_inT (List.mem_append_right _ (List.mem_append_right _ (List.mem_append_right _ (List.mem_append_left _ (List.mem_of_getElem? (l := tables_1_4) (i := 159) rfl))))) rfl
theorem tw_880 : Cond.methodLink "PlaceTimePlansModel" 163 ⟨"PlaceTimePlansModel", "keepsAll", "(III)Z"⟩ ∈ sx_T := sx_inT (List.mem_append_right _ (List.mem_append_right _ (List.mem_append_right _ (List.mem_append_left _ (List.mem_of_getElem? (l := tables_1_4) (i := 160) rfl))))) rfl
theorem tw_882 : Cond.instanceMethod ⟨"PlaceTimePlansModel", "keepsAll", "(III)Z"⟩ ∈ sx_T := sx_inT (List.mem_append_right _ (List.mem_append_right _ (List.mem_append_right _ (List.mem_append_left _ (List.mem_of_getElem? (l := tables_1_4) (i := 162) rfl))))) rfl
theorem tw_883 : Cond.code ⟨"PlaceTimePlansModel", "keepsAll", "(III)Z"⟩ prog_11_method_20_code 8 (Option.some FieldType.boolean) ∈ sx_T := sx_inT (List.mem_append_right _ (List.mem_append_right _ (List.mem_append_right _ (List.mem_append_left _ (List.mem_of_getElem? (l := tables_1_4) (i := 163) rfl))))) rfl
theorem tw_884 : Cond.methodLink "PlaceTimePlansModel" 134 ⟨"PlaceTimePlansModel", "keepsOwn", "(II)Z"⟩ ∈ sx_T := sx_inT (List.mem_append_right _ (List.mem_append_right _ (List.mem_append_right _ (List.mem_append_left _ (List.mem_of_getElem? (l := tables_1_4) (i := 164) rfl))))) rfl
theorem tw_886 : Cond.instanceMethod ⟨"PlaceTimePlansModel", "keepsOwn", "(II)Z"⟩ ∈ sx_T := sx_inT (List.mem_append_right _ (List.mem_append_right _ (List.mem_append_right _ (List.mem_append_left _ (List.mem_of_getElem? (l := tables_1_4) (i := 166) rfl))))) rfl
theorem tw_887 : Cond.code ⟨"PlaceTimePlansModel", "keepsOwn", "(II)Z"⟩ prog_11_method_16_code 5 (Option.some FieldType.boolean) ∈ sx_T := sx_inT (List.mem_append_right _ (List.mem_append_right _ (List.mem_append_right _ (List.mem_append_left _ (List.mem_of_getElem? (l := tables_1_4) (i := 167) rfl))))) rfl
theorem tw_888 : Cond.methodLink "PlaceTimePlansModel" 138 ⟨"PlaceTimePlansModel", "goesWith", "(IIII)Z"⟩ ∈ sx_T := sx_inT (List.mem_append_right _ (List.mem_append_right _ (List.mem_append_right _ (List.mem_append_left _ (List.mem_of_getElem? (l := tables_1_4) (i := 168) rfl))))) rfl
theorem tw_890 : Cond.instanceMethod ⟨"PlaceTimePlansModel", "goesWith", "(IIII)Z"⟩ ∈ sx_T := sx_inT (List.mem_append_right _ (List.mem_append_right _ (List.mem_append_right _ (List.mem_append_left _ (List.mem_of_getElem? (l := tables_1_4) (i := 170) rfl))))) rfl
theorem tw_891 : Cond.code ⟨"PlaceTimePlansModel", "goesWith", "(IIII)Z"⟩ prog_11_method_18_code 6 (Option.some FieldType.boolean) ∈ sx_T := sx_inT (List.mem_append_right _ (List.mem_append_right _ (List.mem_append_right _ (List.mem_append_left _ (List.mem_of_getElem? (l := tables_1_4) (i := 171) rfl))))) rfl
theorem tw_892 : Cond.methodLink "PlaceTimePlansModel" 130 ⟨"PlaceTimePlansModel", "comesAfter", "(IIII)Z"⟩ ∈ sx_T := sx_inT (List.mem_append_right _ (List.mem_append_right _ (List.mem_append_right _ (List.mem_append_left _ (List.mem_of_getElem? (l := tables_1_4) (i := 172) rfl))))) rfl
theorem tw_894 : Cond.instanceMethod ⟨"PlaceTimePlansModel", "comesAfter", "(IIII)Z"⟩ ∈ sx_T := sx_inT (List.mem_append_right _ (List.mem_append_right _ (List.mem_append_right _ (List.mem_append_left _ (List.mem_of_getElem? (l := tables_1_4) (i := 174) rfl))))) rfl
theorem tw_895 : Cond.code ⟨"PlaceTimePlansModel", "comesAfter", "(IIII)Z"⟩ prog_11_method_17_code 11 (Option.some FieldType.boolean) ∈ sx_T := sx_inT (List.mem_append_right _ (List.mem_append_right _ (List.mem_append_right _ (List.mem_append_left _ (List.mem_of_getElem? (l := tables_1_4) (i := 175) rfl))))) rfl
theorem tw_896 : Cond.methodLink "PlaceTimePlansModel" 141 ⟨"PlaceTimePlansModel", "isUnder", "(II)Z"⟩ ∈ sx_T := sx_inT (List.mem_append_right _ (List.mem_append_right _ (List.mem_append_right _ (List.mem_append_left _ (List.mem_of_getElem? (l := tables_1_4) (i := 176) rfl))))) rfl
theorem tw_898 : Cond.instanceMethod ⟨"PlaceTimePlansModel", "isUnder", "(II)Z"⟩ ∈ sx_T := sx_inT (List.mem_append_right _ (List.mem_append_right _ (List.mem_append_right _ (List.mem_append_left _ (List.mem_of_getElem? (l := tables_1_4) (i := 178) rfl))))) rfl
theorem tw_899 : Cond.code ⟨"PlaceTimePlansModel", "isUnder", "(II)Z"⟩ prog_11_method_19_code 3 (Option.some FieldType.boolean) ∈ sx_T := sx_inT (List.mem_append_right _ (List.mem_append_right _ (List.mem_append_right _ (List.mem_append_left _ (List.mem_of_getElem? (l := tables_1_4) (i := 179) rfl))))) rfl
theorem tw_900 : Cond.methodLink "PlaceTimePlansModel" 166 ⟨"PlaceTimePlansModel", "isBetter", "(IZ)Z"⟩ ∈ sx_T := sx_inT (List.mem_append_right _ (List.mem_append_right _ (List.mem_append_right _ (List.mem_append_left _ (List.mem_of_getElem? (l := tables_1_4) (i := 180) rfl))))) rfl
theorem tw_902 : Cond.instanceMethod ⟨"PlaceTimePlansModel", "isBetter", "(IZ)Z"⟩ ∈ sx_T := sx_inT (List.mem_append_right _ (List.mem_append_right _ (List.mem_append_right _ (List.mem_append_left _ (List.mem_of_getElem? (l := tables_1_4) (i := 182) rfl))))) rfl
theorem tw_903 : Cond.code ⟨"PlaceTimePlansModel", "isBetter", "(IZ)Z"⟩ prog_11_method_24_code 5 (Option.some FieldType.boolean) ∈ sx_T := sx_inT (List.mem_append_right _ (List.mem_append_right _ (List.mem_append_right _ (List.mem_append_left _ (List.mem_of_getElem? (l := tables_1_4) (i := 183) rfl))))) rfl
theorem tw_904 : Cond.methodLink "PlaceTimePlansModel" 147 ⟨"PlaceTimePlansModel", "greatestEnd", "(I)I"⟩ ∈ sx_T := sx_inT (List.mem_append_right _ (List.mem_append_right _ (List.mem_append_right _ (List.mem_append_left _ (List.mem_of_getElem? (l := tables_1_4) (i := 184) rfl))))) rfl
theorem tw_906 : Cond.instanceMethod ⟨"PlaceTimePlansModel", "greatestEnd", "(I)I"⟩ ∈ sx_T := sx_inT (List.mem_append_right _ (List.mem_append_right _ (List.mem_append_right _ (List.mem_append_left _ (List.mem_of_getElem? (l := tables_1_4) (i := 186) rfl))))) rfl
theorem tw_907 : Cond.code ⟨"PlaceTimePlansModel", "greatestEnd", "(I)I"⟩ prog_11_method_23_code 4 (Option.some FieldType.int) ∈ sx_T := sx_inT (List.mem_append_right _ (List.mem_append_right _ (List.mem_append_right _ (List.mem_append_left _ (List.mem_of_getElem? (l := tables_1_4) (i := 187) rfl))))) rfl
theorem tw_908 : Cond.methodLink "PlaceTimePlansModel" 153 ⟨"PlaceTimePlansModel", "movedSoFar", "(I)I"⟩ ∈ sx_T := sx_inT (List.mem_append_right _ (List.mem_append_right _ (List.mem_append_right _ (List.mem_append_left _ (List.mem_of_getElem? (l := tables_1_4) (i := 188) rfl))))) rfl
theorem tw_910 : Cond.instanceMethod ⟨"PlaceTimePlansModel", "movedSoFar", "(I)I"⟩ ∈ sx_T := sx_inT (List.mem_append_right _ (List.mem_append_right _ (List.mem_append_right _ (List.mem_append_left _ (List.mem_of_getElem? (l := tables_1_4) (i := 190) rfl))))) rfl
theorem tw_911 : Cond.code ⟨"PlaceTimePlansModel", "movedSoFar", "(I)I"⟩ prog_11_method_22_code 4 (Option.some FieldType.int) ∈ sx_T := sx_inT (List.mem_append_right _ (List.mem_append_right _ (List.mem_append_right _ (List.mem_append_left _ (List.mem_of_getElem? (l := tables_1_4) (i := 191) rfl))))) rfl
theorem tw_912 : Cond.methodLink "PlaceTimePlansModel" 187 ⟨"PlaceTimePlansModel", "take", "(Z)V"⟩ ∈ sx_T := sx_inT (List.mem_append_right _ (List.mem_append_right _ (List.mem_append_right _ (List.mem_append_left _ (List.mem_of_getElem? (l := tables_1_4) (i := 192) rfl))))) rfl
theorem tw_914 : Cond.instanceMethod ⟨"PlaceTimePlansModel", "take", "(Z)V"⟩ ∈ sx_T := sx_inT (List.mem_append_right _ (List.mem_append_right _ (List.mem_append_right _ (List.mem_append_left _ (List.mem_of_getElem? (l := tables_1_4) (i := 194) rfl))))) rfl
theorem tw_915 : Cond.code ⟨"PlaceTimePlansModel", "take", "(Z)V"⟩ prog_11_method_27_code 3 none ∈ sx_T := sx_inT (List.mem_append_right _ (List.mem_append_right _ (List.mem_append_right _ (List.mem_append_left _ (List.mem_of_getElem? (l := tables_1_4) (i := 195) rfl))))) rfl
theorem tw_916 : Cond.methodLink "PlaceTimePlansLaw" 106 ⟨"PlaceTimePlansModel", "replan", "(I)I"⟩ ∈ sx_T := sx_inT (List.mem_append_right _ (List.mem_append_right _ (List.mem_append_right _ (List.mem_append_left _ (List.mem_of_getElem? (l := tables_1_4) (i := 196) rfl))))) rfl
theorem tw_917 : Cond.instanceMethod ⟨"PlaceTimePlansModel", "replan", "(I)I"⟩ ∈ sx_T := sx_inT (List.mem_append_right _ (List.mem_append_right _ (List.mem_append_right _ (List.mem_append_left _ (List.mem_of_getElem? (l := tables_1_4) (i := 197) rfl))))) rfl
theorem tw_918 : Cond.selects "PlaceTimePlansModel" ⟨"PlaceTimePlansModel", "replan", "(I)I"⟩ ⟨"PlaceTimePlansModel", "replan", "(I)I"⟩ ∈ sx_T := sx_inT (List.mem_append_right _ (List.mem_append_right _ (List.mem_append_right _ (List.mem_append_left _ (List.mem_of_getElem? (l := tables_1_4) (i := 198) rfl))))) rfl
theorem tw_919 : Cond.code ⟨"PlaceTimePlansModel", "replan", "(I)I"⟩ prog_11_method_29_code 2 (Option.some FieldType.int) ∈ sx_T := sx_inT (List.mem_append_right _ (List.mem_append_right _ (List.mem_append_right _ (List.mem_append_left _ (List.mem_of_getElem? (l := tables_1_4) (i := 199) rfl))))) rfl
theorem tw_920 : Cond.methodLink "PlaceTimePlansLaw" 59 ⟨"PlaceTimePlansModel", "proved", "()Z"⟩ ∈ sx_T := sx_inT (List.mem_append_right _ (List.mem_append_right _ (List.mem_append_right _ (List.mem_append_left _ (List.mem_of_getElem? (l := tables_1_4) (i := 200) rfl))))) rfl
theorem tw_921 : Cond.instanceMethod ⟨"PlaceTimePlansModel", "proved", "()Z"⟩ ∈ sx_T := sx_inT (List.mem_append_right _ (List.mem_append_right _ (List.mem_append_right _ (List.mem_append_left _ (List.mem_of_getElem? (l := tables_1_4) (i := 201) rfl))))) rfl
theorem tw_922 : Cond.selects "PlaceTimePlansModel" ⟨"PlaceTimePlansModel", "proved", "()Z"⟩ ⟨"PlaceTimePlansModel", "proved", "()Z"⟩ ∈ sx_T := sx_inT (List.mem_append_right _ (List.mem_append_right _ (List.mem_append_right _ (List.mem_append_left _ (List.mem_of_getElem? (l := tables_1_4) (i := 202) rfl))))) rfl
theorem tw_923 : Cond.code ⟨"PlaceTimePlansModel", "proved", "()Z"⟩ prog_11_method_30_code 1 (Option.some FieldType.boolean) ∈ sx_T := sx_inT (List.mem_append_right _ (List.mem_append_right _ (List.mem_append_right _ (List.mem_append_left _ (List.mem_of_getElem? (l := tables_1_4) (i := 203) rfl))))) rfl
theorem tw_924 : Cond.methodLink "PlaceTimePlansLaw" 64 ⟨"PlaceTimePlansModel", "tried", "()I"⟩ ∈ sx_T := sx_inT (List.mem_append_right _ (List.mem_append_right _ (List.mem_append_right _ (List.mem_append_left _ (List.mem_of_getElem? (l := tables_1_4) (i := 204) rfl))))) rfl
theorem tw_925 : Cond.instanceMethod ⟨"PlaceTimePlansModel", "tried", "()I"⟩ ∈ sx_T := sx_inT (List.mem_append_right _ (List.mem_append_right _ (List.mem_append_right _ (List.mem_append_left _ (List.mem_of_getElem? (l := tables_1_4) (i := 205) rfl))))) rfl
theorem tw_926 : Cond.selects "PlaceTimePlansModel" ⟨"PlaceTimePlansModel", "tried", "()I"⟩ ⟨"PlaceTimePlansModel", "tried", "()I"⟩ ∈ sx_T := sx_inT (List.mem_append_right _ (List.mem_append_right _ (List.mem_append_right _ (List.mem_append_left _ (List.mem_of_getElem? (l := tables_1_4) (i := 206) rfl))))) rfl
theorem tw_927 : Cond.code ⟨"PlaceTimePlansModel", "tried", "()I"⟩ prog_11_method_31_code 1 (Option.some FieldType.int) ∈ sx_T := sx_inT (List.mem_append_right _ (List.mem_append_right _ (List.mem_append_right _ (List.mem_append_left _ (List.mem_of_getElem? (l := tables_1_4) (i := 207) rfl))))) rfl
theorem tw_928 : Cond.methodLink "PlaceTimePlansLaw" 68 ⟨"PlaceTimePlansModel", "told", "(II)I"⟩ ∈ sx_T := sx_inT (List.mem_append_right _ (List.mem_append_right _ (List.mem_append_right _ (List.mem_append_left _ (List.mem_of_getElem? (l := tables_1_4) (i := 208) rfl))))) rfl
theorem tw_929 : Cond.instanceMethod ⟨"PlaceTimePlansModel", "told", "(II)I"⟩ ∈ sx_T := sx_inT (List.mem_append_right _ (List.mem_append_right _ (List.mem_append_right _ (List.mem_append_left _ (List.mem_of_getElem? (l := tables_1_4) (i := 209) rfl))))) rfl
theorem tw_930 : Cond.selects "PlaceTimePlansModel" ⟨"PlaceTimePlansModel", "told", "(II)I"⟩ ⟨"PlaceTimePlansModel", "told", "(II)I"⟩ ∈ sx_T := sx_inT (List.mem_append_right _ (List.mem_append_right _ (List.mem_append_right _ (List.mem_append_left _ (List.mem_of_getElem? (l := tables_1_4) (i := 210) rfl))))) rfl
theorem tw_931 : Cond.code ⟨"PlaceTimePlansModel", "told", "(II)I"⟩ prog_11_method_33_code 3 (Option.some FieldType.int) ∈ sx_T := sx_inT (List.mem_append_right _ (List.mem_append_right _ (List.mem_append_right _ (List.mem_append_left _ (List.mem_of_getElem? (l := tables_1_4) (i := 211) rfl))))) rfl
theorem tw_932 : Cond.methodLink "PlaceTimePlansModel" 191 ⟨"PlaceTimePlansModel", "layPlan", "()V"⟩ ∈ sx_T := sx_inT (List.mem_append_right _ (List.mem_append_right _ (List.mem_append_right _ (List.mem_append_left _ (List.mem_of_getElem? (l := tables_1_4) (i := 212) rfl))))) rfl
theorem tw_934 : Cond.instanceMethod ⟨"PlaceTimePlansModel", "layPlan", "()V"⟩ ∈ sx_T := sx_inT (List.mem_append_right _ (List.mem_append_right _ (List.mem_append_right _ (List.mem_append_left _ (List.mem_of_getElem? (l := tables_1_4) (i := 214) rfl))))) rfl
theorem tw_935 : Cond.code ⟨"PlaceTimePlansModel", "layPlan", "()V"⟩ prog_11_method_32_code 2 none ∈ sx_T := sx_inT (List.mem_append_right _ (List.mem_append_right _ (List.mem_append_right _ (List.mem_append_left _ (List.mem_of_getElem? (l := tables_1_4) (i := 215) rfl))))) rfl
theorem tw_936 : Cond.methodLink "PlaceTimePlansLaw" 72 ⟨"PlaceTimePlansModel", "at", "(II)I"⟩ ∈ sx_T := sx_inT (List.mem_append_right _ (List.mem_append_right _ (List.mem_append_right _ (List.mem_append_left _ (List.mem_of_getElem? (l := tables_1_4) (i := 216) rfl))))) rfl
theorem tw_937 : Cond.instanceMethod ⟨"PlaceTimePlansModel", "at", "(II)I"⟩ ∈ sx_T := sx_inT (List.mem_append_right _ (List.mem_append_right _ (List.mem_append_right _ (List.mem_append_left _ (List.mem_of_getElem? (l := tables_1_4) (i := 217) rfl))))) rfl
theorem tw_938 : Cond.selects "PlaceTimePlansModel" ⟨"PlaceTimePlansModel", "at", "(II)I"⟩ ⟨"PlaceTimePlansModel", "at", "(II)I"⟩ ∈ sx_T := sx_inT (List.mem_append_right _ (List.mem_append_right _ (List.mem_append_right _ (List.mem_append_left _ (List.mem_of_getElem? (l := tables_1_4) (i := 218) rfl))))) rfl
theorem tw_939 : Cond.code ⟨"PlaceTimePlansModel", "at", "(II)I"⟩ prog_11_method_34_code 6 (Option.some FieldType.int) ∈ sx_T := sx_inT (List.mem_append_right _ (List.mem_append_right _ (List.mem_append_right _ (List.mem_append_left _ (List.mem_of_getElem? (l := tables_1_4) (i := 219) rfl))))) rfl
theorem tw_940 : Cond.methodLink "PlaceTimePlansLaw" 77 ⟨"PlaceTimePlansModel", "passes", "(IIZI)I"⟩ ∈ sx_T := sx_inT (List.mem_append_right _ (List.mem_append_right _ (List.mem_append_right _ (List.mem_append_left _ (List.mem_of_getElem? (l := tables_1_4) (i := 220) rfl))))) rfl
theorem tw_941 : Cond.instanceMethod ⟨"PlaceTimePlansModel", "passes", "(IIZI)I"⟩ ∈ sx_T := sx_inT (List.mem_append_right _ (List.mem_append_right _ (List.mem_append_right _ (List.mem_append_left _ (List.mem_of_getElem? (l := tables_1_4) (i := 221) rfl))))) rfl
theorem tw_942 : Cond.selects "PlaceTimePlansModel" ⟨"PlaceTimePlansModel", "passes", "(IIZI)I"⟩ ⟨"PlaceTimePlansModel", "passes", "(IIZI)I"⟩ ∈ sx_T := sx_inT (List.mem_append_right _ (List.mem_append_right _ (List.mem_append_right _ (List.mem_append_left _ (List.mem_of_getElem? (l := tables_1_4) (i := 222) rfl))))) rfl
theorem tw_943 : Cond.code ⟨"PlaceTimePlansModel", "passes", "(IIZI)I"⟩ prog_11_method_36_code 7 (Option.some FieldType.int) ∈ sx_T := sx_inT (List.mem_append_right _ (List.mem_append_right _ (List.mem_append_right _ (List.mem_append_left _ (List.mem_of_getElem? (l := tables_1_4) (i := 223) rfl))))) rfl
theorem tw_944 : Cond.methodLink "PlaceTimePlansModel" 194 ⟨"PlaceTimePlansModel", "common", "(II)I"⟩ ∈ sx_T := sx_inT (List.mem_append_right _ (List.mem_append_right _ (List.mem_append_right _ (List.mem_append_left _ (List.mem_of_getElem? (l := tables_1_4) (i := 224) rfl))))) rfl
theorem tw_945 : Cond.static ⟨"PlaceTimePlansModel", "common", "(II)I"⟩ ∈ sx_T := sx_inT (List.mem_append_right _ (List.mem_append_right _ (List.mem_append_right _ (List.mem_append_left _ (List.mem_of_getElem? (l := tables_1_4) (i := 225) rfl))))) rfl
theorem tw_946 : Cond.code ⟨"PlaceTimePlansModel", "common", "(II)I"⟩ prog_11_method_35_code 5 (Option.some FieldType.int) ∈ sx_T := sx_inT (List.mem_append_right _ (List.mem_append_right _ (List.mem_append_right _ (List.mem_append_left _ (List.mem_of_getElem? (l := tables_1_4) (i := 226) rfl))))) rfl
theorem tw_947 : Cond.methodLink "PlaceTimePlansLaw" 82 ⟨"PlaceTimePlansModel", "crosses", "(II)Z"⟩ ∈ sx_T := sx_inT (List.mem_append_right _ (List.mem_append_right _ (List.mem_append_right _ (List.mem_append_left _ (List.mem_of_getElem? (l := tables_1_4) (i := 227) rfl))))) rfl
theorem tw_948 : Cond.instanceMethod ⟨"PlaceTimePlansModel", "crosses", "(II)Z"⟩ ∈ sx_T := sx_inT (List.mem_append_right _ (List.mem_append_right _ (List.mem_append_right _ (List.mem_append_left _ (List.mem_of_getElem? (l := tables_1_4) (i := 228) rfl))))) rfl
theorem tw_949 : Cond.selects "PlaceTimePlansModel" ⟨"PlaceTimePlansModel", "crosses", "(II)Z"⟩ ⟨"PlaceTimePlansModel", "crosses", "(II)Z"⟩ ∈ sx_T := sx_inT (List.mem_append_right _ (List.mem_append_right _ (List.mem_append_right _ (List.mem_append_left _ (List.mem_of_getElem? (l := tables_1_4) (i := 229) rfl))))) rfl
theorem tw_950 : Cond.code ⟨"PlaceTimePlansModel", "crosses", "(II)Z"⟩ prog_11_method_37_code 10 (Option.some FieldType.boolean) ∈ sx_T := sx_inT (List.mem_append_right _ (List.mem_append_right _ (List.mem_append_right _ (List.mem_append_left _ (List.mem_of_getElem? (l := tables_1_4) (i := 230) rfl))))) rfl
theorem tw_951 : Cond.methodLink "PlaceTimePlansLaw" 86 ⟨"PlaceTimePlansModel", "under", "(II)I"⟩ ∈ sx_T := sx_inT (List.mem_append_right _ (List.mem_append_right _ (List.mem_append_right _ (List.mem_append_left _ (List.mem_of_getElem? (l := tables_1_4) (i := 231) rfl))))) rfl
theorem tw_952 : Cond.instanceMethod ⟨"PlaceTimePlansModel", "under", "(II)I"⟩ ∈ sx_T := sx_inT (List.mem_append_right _ (List.mem_append_right _ (List.mem_append_right _ (List.mem_append_left _ (List.mem_of_getElem? (l := tables_1_4) (i := 232) rfl))))) rfl
theorem tw_953 : Cond.selects "PlaceTimePlansModel" ⟨"PlaceTimePlansModel", "under", "(II)I"⟩ ⟨"PlaceTimePlansModel", "under", "(II)I"⟩ ∈ sx_T := sx_inT (List.mem_append_right _ (List.mem_append_right _ (List.mem_append_right _ (List.mem_append_left _ (List.mem_of_getElem? (l := tables_1_4) (i := 233) rfl))))) rfl
theorem tw_954 : Cond.code ⟨"PlaceTimePlansModel", "under", "(II)I"⟩ prog_11_method_38_code 5 (Option.some FieldType.int) ∈ sx_T := sx_inT (List.mem_append_right _ (List.mem_append_right _ (List.mem_append_right _ (List.mem_append_left _ (List.mem_of_getElem? (l := tables_1_4) (i := 234) rfl))))) rfl
theorem tw_955 : Cond.methodLink "PlaceTimePlansLaw" 90 ⟨"PlaceTimePlansModel", "bound", "()I"⟩ ∈ sx_T := sx_inT (List.mem_append_right _ (List.mem_append_right _ (List.mem_append_right _ (List.mem_append_left _ (List.mem_of_getElem? (l := tables_1_4) (i := 235) rfl))))) rfl
theorem tw_956 : Cond.instanceMethod ⟨"PlaceTimePlansModel", "bound", "()I"⟩ ∈ sx_T := sx_inT (List.mem_append_right _ (List.mem_append_right _ (List.mem_append_right _ (List.mem_append_left _ (List.mem_of_getElem? (l := tables_1_4) (i := 236) rfl))))) rfl
theorem tw_957 : Cond.selects "PlaceTimePlansModel" ⟨"PlaceTimePlansModel", "bound", "()I"⟩ ⟨"PlaceTimePlansModel", "bound", "()I"⟩ ∈ sx_T := sx_inT (List.mem_append_right _ (List.mem_append_right _ (List.mem_append_right _ (List.mem_append_left _ (List.mem_of_getElem? (l := tables_1_4) (i := 237) rfl))))) rfl
theorem tw_958 : Cond.code ⟨"PlaceTimePlansModel", "bound", "()I"⟩ prog_11_method_40_code 5 (Option.some FieldType.int) ∈ sx_T := sx_inT (List.mem_append_right _ (List.mem_append_right _ (List.mem_append_right _ (List.mem_append_left _ (List.mem_of_getElem? (l := tables_1_4) (i := 238) rfl))))) rfl
theorem tw_959 : Cond.methodLink "PlaceTimePlansModel" 198 ⟨"PlaceTimePlansModel", "daysOf", "(I)I"⟩ ∈ sx_T := sx_inT (List.mem_append_right _ (List.mem_append_right _ (List.mem_append_right _ (List.mem_append_left _ (List.mem_of_getElem? (l := tables_1_4) (i := 239) rfl))))) rfl
theorem tw_961 : Cond.instanceMethod ⟨"PlaceTimePlansModel", "daysOf", "(I)I"⟩ ∈ sx_T := sx_inT (List.mem_append_right _ (List.mem_append_right _ (List.mem_append_right _ (List.mem_append_right _ (List.mem_of_getElem? (l := tables_1_5) (i := 1) rfl))))) rfl
theorem tw_962 : Cond.code ⟨"PlaceTimePlansModel", "daysOf", "(I)I"⟩ prog_11_method_39_code 2 (Option.some FieldType.int) ∈ sx_T := sx_inT (List.mem_append_right _ (List.mem_append_right _ (List.mem_append_right _ (List.mem_append_right _ (List.mem_of_getElem? (l := tables_1_5) (i := 2) rfl))))) rfl
theorem tw_963 : Cond.methodLink "PlaceTimePlansLaw" 94 ⟨"PlaceTimePlansModel", "lone", "(I)I"⟩ ∈ sx_T := sx_inT (List.mem_append_right _ (List.mem_append_right _ (List.mem_append_right _ (List.mem_append_right _ (List.mem_of_getElem? (l := tables_1_5) (i := 3) rfl))))) rfl
theorem tw_964 : Cond.instanceMethod ⟨"PlaceTimePlansModel", "lone", "(I)I"⟩ ∈ sx_T := sx_inT (List.mem_append_right _ (List.mem_append_right _ (List.mem_append_right _ (List.mem_append_right _ (List.mem_of_getElem? (l := tables_1_5) (i := 4) rfl))))) rfl
theorem tw_965 : Cond.selects "PlaceTimePlansModel" ⟨"PlaceTimePlansModel", "lone", "(I)I"⟩ ⟨"PlaceTimePlansModel", "lone", "(I)I"⟩ ∈ sx_T := sx_inT (List.mem_append_right _ (List.mem_append_right _ (List.mem_append_right _ (List.mem_append_right _ (List.mem_of_getElem? (l := tables_1_5) (i := 5) rfl))))) rfl
theorem tw_966 : Cond.code ⟨"PlaceTimePlansModel", "lone", "(I)I"⟩ prog_11_method_42_code 4 (Option.some FieldType.int) ∈ sx_T := sx_inT (List.mem_append_right _ (List.mem_append_right _ (List.mem_append_right _ (List.mem_append_right _ (List.mem_of_getElem? (l := tables_1_5) (i := 6) rfl))))) rfl
theorem tw_967 : Cond.methodLink "PlaceTimePlansModel" 201 ⟨"PlaceTimePlansModel", "isLone", "(I)Z"⟩ ∈ sx_T := sx_inT (List.mem_append_right _ (List.mem_append_right _ (List.mem_append_right _ (List.mem_append_right _ (List.mem_of_getElem? (l := tables_1_5) (i := 7) rfl))))) rfl
theorem tw_969 : Cond.instanceMethod ⟨"PlaceTimePlansModel", "isLone", "(I)Z"⟩ ∈ sx_T := sx_inT (List.mem_append_right _ (List.mem_append_right _ (List.mem_append_right _ (List.mem_append_right _ (List.mem_of_getElem? (l := tables_1_5) (i := 9) rfl))))) rfl
theorem tw_970 : Cond.code ⟨"PlaceTimePlansModel", "isLone", "(I)Z"⟩ prog_11_method_41_code 4 (Option.some FieldType.boolean) ∈ sx_T := sx_inT (List.mem_append_right _ (List.mem_append_right _ (List.mem_append_right _ (List.mem_append_right _ (List.mem_of_getElem? (l := tables_1_5) (i := 10) rfl))))) rfl
theorem tw_971 : Cond.methodLink "PlaceTimePlansLaw" 98 ⟨"PlaceTimePlansModel", "late", "(II)Z"⟩ ∈ sx_T := sx_inT (List.mem_append_right _ (List.mem_append_right _ (List.mem_append_right _ (List.mem_append_right _ (List.mem_of_getElem? (l := tables_1_5) (i := 11) rfl))))) rfl
theorem tw_972 : Cond.instanceMethod ⟨"PlaceTimePlansModel", "late", "(II)Z"⟩ ∈ sx_T := sx_inT (List.mem_append_right _ (List.mem_append_right _ (List.mem_append_right _ (List.mem_append_right _ (List.mem_of_getElem? (l := tables_1_5) (i := 12) rfl))))) rfl
theorem tw_973 : Cond.selects "PlaceTimePlansModel" ⟨"PlaceTimePlansModel", "late", "(II)Z"⟩ ⟨"PlaceTimePlansModel", "late", "(II)Z"⟩ ∈ sx_T := sx_inT (List.mem_append_right _ (List.mem_append_right _ (List.mem_append_right _ (List.mem_append_right _ (List.mem_of_getElem? (l := tables_1_5) (i := 13) rfl))))) rfl
theorem tw_974 : Cond.code ⟨"PlaceTimePlansModel", "late", "(II)Z"⟩ prog_11_method_43_code 3 (Option.some FieldType.boolean) ∈ sx_T := sx_inT (List.mem_append_right _ (List.mem_append_right _ (List.mem_append_right _ (List.mem_append_right _ (List.mem_of_getElem? (l := tables_1_5) (i := 14) rfl))))) rfl
theorem tw_975 : Cond.methodLink "PlaceTimePlansLaw" 102 ⟨"PlaceTimePlansModel", "freeze", "(I)I"⟩ ∈ sx_T := sx_inT (List.mem_append_right _ (List.mem_append_right _ (List.mem_append_right _ (List.mem_append_right _ (List.mem_of_getElem? (l := tables_1_5) (i := 15) rfl))))) rfl
theorem tw_976 : Cond.instanceMethod ⟨"PlaceTimePlansModel", "freeze", "(I)I"⟩ ∈ sx_T := sx_inT (List.mem_append_right _ (List.mem_append_right _ (List.mem_append_right _ (List.mem_append_right _ (List.mem_of_getElem? (l := tables_1_5) (i := 16) rfl))))) rfl
theorem tw_977 : Cond.selects "PlaceTimePlansModel" ⟨"PlaceTimePlansModel", "freeze", "(I)I"⟩ ⟨"PlaceTimePlansModel", "freeze", "(I)I"⟩ ∈ sx_T := sx_inT (List.mem_append_right _ (List.mem_append_right _ (List.mem_append_right _ (List.mem_append_right _ (List.mem_of_getElem? (l := tables_1_5) (i := 17) rfl))))) rfl
theorem tw_978 : Cond.code ⟨"PlaceTimePlansModel", "freeze", "(I)I"⟩ prog_11_method_44_code 4 (Option.some FieldType.int) ∈ sx_T := sx_inT (List.mem_append_right _ (List.mem_append_right _ (List.mem_append_right _ (List.mem_append_right _ (List.mem_of_getElem? (l := tables_1_5) (i := 18) rfl))))) rfl
theorem tw_979 : Cond.methodLink "PlaceTimePlansLaw" 110 ⟨"PlaceTimePlansModel", "moved", "(I)Z"⟩ ∈ sx_T := sx_inT (List.mem_append_right _ (List.mem_append_right _ (List.mem_append_right _ (List.mem_append_right _ (List.mem_of_getElem? (l := tables_1_5) (i := 19) rfl))))) rfl
theorem tw_980 : Cond.instanceMethod ⟨"PlaceTimePlansModel", "moved", "(I)Z"⟩ ∈ sx_T := sx_inT (List.mem_append_right _ (List.mem_append_right _ (List.mem_append_right _ (List.mem_append_right _ (List.mem_of_getElem? (l := tables_1_5) (i := 20) rfl))))) rfl
theorem tw_981 : Cond.selects "PlaceTimePlansModel" ⟨"PlaceTimePlansModel", "moved", "(I)Z"⟩ ⟨"PlaceTimePlansModel", "moved", "(I)Z"⟩ ∈ sx_T := sx_inT (List.mem_append_right _ (List.mem_append_right _ (List.mem_append_right _ (List.mem_append_right _ (List.mem_of_getElem? (l := tables_1_5) (i := 21) rfl))))) rfl
theorem tw_982 : Cond.code ⟨"PlaceTimePlansModel", "moved", "(I)Z"⟩ prog_11_method_45_code 2 (Option.some FieldType.boolean) ∈ sx_T := sx_inT (List.mem_append_right _ (List.mem_append_right _ (List.mem_append_right _ (List.mem_append_right _ (List.mem_of_getElem? (l := tables_1_5) (i := 22) rfl))))) rfl
theorem tw_983 : Cond.methodLink "PlaceTimePlansLaw" 114 ⟨"PlaceTimePlansModel", "slack", "(I)I"⟩ ∈ sx_T := sx_inT (List.mem_append_right _ (List.mem_append_right _ (List.mem_append_right _ (List.mem_append_right _ (List.mem_of_getElem? (l := tables_1_5) (i := 23) rfl))))) rfl
theorem tw_984 : Cond.instanceMethod ⟨"PlaceTimePlansModel", "slack", "(I)I"⟩ ∈ sx_T := sx_inT (List.mem_append_right _ (List.mem_append_right _ (List.mem_append_right _ (List.mem_append_right _ (List.mem_of_getElem? (l := tables_1_5) (i := 24) rfl))))) rfl
theorem tw_985 : Cond.selects "PlaceTimePlansModel" ⟨"PlaceTimePlansModel", "slack", "(I)I"⟩ ⟨"PlaceTimePlansModel", "slack", "(I)I"⟩ ∈ sx_T := sx_inT (List.mem_append_right _ (List.mem_append_right _ (List.mem_append_right _ (List.mem_append_right _ (List.mem_of_getElem? (l := tables_1_5) (i := 25) rfl))))) rfl
theorem tw_986 : Cond.code ⟨"PlaceTimePlansModel", "slack", "(I)I"⟩ prog_11_method_46_code 5 (Option.some FieldType.int) ∈ sx_T := sx_inT (List.mem_append_right _ (List.mem_append_right _ (List.mem_append_right _ (List.mem_append_right _ (List.mem_of_getElem? (l := tables_1_5) (i := 26) rfl))))) rfl
theorem tw_987 : Cond.methodLink "PlaceTimePlansLaw" 119 ⟨"PlaceTimePlansModel", "odds", "(IIII)I"⟩ ∈ sx_T := sx_inT (List.mem_append_right _ (List.mem_append_right _ (List.mem_append_right _ (List.mem_append_right _ (List.mem_of_getElem? (l := tables_1_5) (i := 27) rfl))))) rfl
theorem tw_988 : Cond.instanceMethod ⟨"PlaceTimePlansModel", "odds", "(IIII)I"⟩ ∈ sx_T := sx_inT (List.mem_append_right _ (List.mem_append_right _ (List.mem_append_right _ (List.mem_append_right _ (List.mem_of_getElem? (l := tables_1_5) (i := 28) rfl))))) rfl
theorem tw_989 : Cond.selects "PlaceTimePlansModel" ⟨"PlaceTimePlansModel", "odds", "(IIII)I"⟩ ⟨"PlaceTimePlansModel", "odds", "(IIII)I"⟩ ∈ sx_T := sx_inT (List.mem_append_right _ (List.mem_append_right _ (List.mem_append_right _ (List.mem_append_right _ (List.mem_of_getElem? (l := tables_1_5) (i := 29) rfl))))) rfl
theorem tw_990 : Cond.code ⟨"PlaceTimePlansModel", "odds", "(IIII)I"⟩ prog_11_method_48_code 10 (Option.some FieldType.int) ∈ sx_T := sx_inT (List.mem_append_right _ (List.mem_append_right _ (List.mem_append_right _ (List.mem_append_right _ (List.mem_of_getElem? (l := tables_1_5) (i := 30) rfl))))) rfl
theorem tw_991 : Cond.constant "PlaceTimePlansModel" 204 1103515245 ∈ sx_T := sx_inT (List.mem_append_right _ (List.mem_append_right _ (List.mem_append_right _ (List.mem_append_right _ (List.mem_of_getElem? (l := tables_1_5) (i := 31) rfl))))) rfl
theorem tw_992 : Cond.constant "PlaceTimePlansModel" 205 2147483647 ∈ sx_T := sx_inT (List.mem_append_right _ (List.mem_append_right _ (List.mem_append_right _ (List.mem_append_right _ (List.mem_of_getElem? (l := tables_1_5) (i := 32) rfl))))) rfl
theorem tw_993 : Cond.constant "PlaceTimePlansModel" 206 65536 ∈ sx_T := sx_inT (List.mem_append_right _ (List.mem_append_right _ (List.mem_append_right _ (List.mem_append_right _ (List.mem_of_getElem? (l := tables_1_5) (i := 33) rfl))))) rfl
theorem tw_994 : Cond.methodLink "PlaceTimePlansModel" 207 ⟨"PlaceTimePlansModel", "wetEnd", "(I)I"⟩ ∈ sx_T := sx_inT (List.mem_append_right _ (List.mem_append_right _ (List.mem_append_right _ (List.mem_append_right _ (List.mem_of_getElem? (l := tables_1_5) (i := 34) rfl))))) rfl
theorem tw_996 : Cond.instanceMethod ⟨"PlaceTimePlansModel", "wetEnd", "(I)I"⟩ ∈ sx_T := sx_inT (List.mem_append_right _ (List.mem_append_right _ (List.mem_append_right _ (List.mem_append_right _ (List.mem_of_getElem? (l := tables_1_5) (i := 36) rfl))))) rfl
theorem tw_997 : Cond.code ⟨"PlaceTimePlansModel", "wetEnd", "(I)I"⟩ prog_11_method_47_code 5 (Option.some FieldType.int) ∈ sx_T := sx_inT (List.mem_append_right _ (List.mem_append_right _ (List.mem_append_right _ (List.mem_append_right _ (List.mem_of_getElem? (l := tables_1_5) (i := 37) rfl))))) rfl
theorem tw_998 : Cond.methodLink "PlaceTimePlansLaw" 123 ⟨"PlaceTimePlansModel", "count", "(I)I"⟩ ∈ sx_T := sx_inT (List.mem_append_right _ (List.mem_append_right _ (List.mem_append_right _ (List.mem_append_right _ (List.mem_of_getElem? (l := tables_1_5) (i := 38) rfl))))) rfl
theorem tw_999 : Cond.instanceMethod ⟨"PlaceTimePlansModel", "count", "(I)I"⟩ ∈ sx_T := sx_inT (List.mem_append_right _ (List.mem_append_right _ (List.mem_append_right _ (List.mem_append_right _ (List.mem_of_getElem? (l := tables_1_5) (i := 39) rfl))))) rfl
theorem tw_1000 : Cond.selects "PlaceTimePlansModel" ⟨"PlaceTimePlansModel", "count", "(I)I"⟩ ⟨"PlaceTimePlansModel", "count", "(I)I"⟩ ∈ sx_T := sx_inT (List.mem_append_right _ (List.mem_append_right _ (List.mem_append_right _ (List.mem_append_right _ (List.mem_of_getElem? (l := tables_1_5) (i := 40) rfl))))) rfl
theorem tw_1001 : Cond.code ⟨"PlaceTimePlansModel", "count", "(I)I"⟩ prog_11_method_49_code 4 (Option.some FieldType.int) ∈ sx_T := sx_inT (List.mem_append_right _ (List.mem_append_right _ (List.mem_append_right _ (List.mem_append_right _ (List.mem_of_getElem? (l := tables_1_5) (i := 41) rfl))))) rfl
theorem ps_0 : Cond.selects "PlaceTimePlans$Days" ⟨"PlaceTimePlans$Days", "countWorkingDays", "()V"⟩ ⟨"PlaceTimePlans$Days", "countWorkingDays", "()V"⟩ ∈ sx_T := List.mem_filter.mpr ⟨List.mem_append_left _ (List.mem_map.mpr ⟨(⟨"PlaceTimePlans$Days", "countWorkingDays", "()V"⟩, 4), List.mem_of_getElem? (l := lw_privs) (i := 0) rfl, rfl⟩), rfl⟩
theorem ps_1 : Cond.selects "PlaceTimePlans" ⟨"PlaceTimePlans", "forgetPlan", "()V"⟩ ⟨"PlaceTimePlans", "forgetPlan", "()V"⟩ ∈ sx_T := List.mem_filter.mpr ⟨List.mem_append_left _ (List.mem_map.mpr ⟨(⟨"PlaceTimePlans", "forgetPlan", "()V"⟩, 11), List.mem_of_getElem? (l := lw_privs) (i := 1) rfl, rfl⟩), rfl⟩
theorem ps_2 : Cond.selects "PlaceTimePlans" ⟨"PlaceTimePlans", "isWork", "(I)Z"⟩ ⟨"PlaceTimePlans", "isWork", "(I)Z"⟩ ∈ sx_T := List.mem_filter.mpr ⟨List.mem_append_left _ (List.mem_map.mpr ⟨(⟨"PlaceTimePlans", "isWork", "(I)Z"⟩, 11), List.mem_of_getElem? (l := lw_privs) (i := 2) rfl, rfl⟩), rfl⟩
theorem ps_3 : Cond.selects "PlaceTimePlans$Search" ⟨"PlaceTimePlans$Search", "tryStarts", "(I)V"⟩ ⟨"PlaceTimePlans$Search", "tryStarts", "(I)V"⟩ ∈ sx_T := List.mem_filter.mpr ⟨List.mem_append_left _ (List.mem_map.mpr ⟨(⟨"PlaceTimePlans$Search", "tryStarts", "(I)V"⟩, 15), List.mem_of_getElem? (l := lw_privs) (i := 3) rfl, rfl⟩), rfl⟩
theorem ps_4 : Cond.selects "PlaceTimePlans$Rules" ⟨"PlaceTimePlans$Rules", "openAlone", "(LPlaceTimePlans$Window;II)V"⟩ ⟨"PlaceTimePlans$Rules", "openAlone", "(LPlaceTimePlans$Window;II)V"⟩ ∈ sx_T := List.mem_filter.mpr ⟨List.mem_append_left _ (List.mem_map.mpr ⟨(⟨"PlaceTimePlans$Rules", "openAlone", "(LPlaceTimePlans$Window;II)V"⟩, 3), List.mem_of_getElem? (l := lw_privs) (i := 4) rfl, rfl⟩), rfl⟩
theorem ps_5 : Cond.selects "PlaceTimePlans$Rules" ⟨"PlaceTimePlans$Rules", "firstStart", "(LPlaceTimePlans$Work;III)I"⟩ ⟨"PlaceTimePlans$Rules", "firstStart", "(LPlaceTimePlans$Work;III)I"⟩ ∈ sx_T := List.mem_filter.mpr ⟨List.mem_append_left _ (List.mem_map.mpr ⟨(⟨"PlaceTimePlans$Rules", "firstStart", "(LPlaceTimePlans$Work;III)I"⟩, 3), List.mem_of_getElem? (l := lw_privs) (i := 5) rfl, rfl⟩), rfl⟩
theorem ps_6 : Cond.selects "PlaceTimePlans$Rules" ⟨"PlaceTimePlans$Rules", "keepGaps", "(LPlaceTimePlans$Window;LPlaceTimePlans$Placing;III)V"⟩ ⟨"PlaceTimePlans$Rules", "keepGaps", "(LPlaceTimePlans$Window;LPlaceTimePlans$Placing;III)V"⟩ ∈ sx_T := List.mem_filter.mpr ⟨List.mem_append_left _ (List.mem_map.mpr ⟨(⟨"PlaceTimePlans$Rules", "keepGaps", "(LPlaceTimePlans$Window;LPlaceTimePlans$Placing;III)V"⟩, 3), List.mem_of_getElem? (l := lw_privs) (i := 6) rfl, rfl⟩), rfl⟩
theorem ps_7 : Cond.selects "PlaceTimePlans$Rules" ⟨"PlaceTimePlans$Rules", "lastStart", "(LPlaceTimePlans$Work;III)I"⟩ ⟨"PlaceTimePlans$Rules", "lastStart", "(LPlaceTimePlans$Work;III)I"⟩ ∈ sx_T := List.mem_filter.mpr ⟨List.mem_append_left _ (List.mem_map.mpr ⟨(⟨"PlaceTimePlans$Rules", "lastStart", "(LPlaceTimePlans$Work;III)I"⟩, 3), List.mem_of_getElem? (l := lw_privs) (i := 7) rfl, rfl⟩), rfl⟩
theorem ps_8 : Cond.selects "PlaceTimePlans$Search" ⟨"PlaceTimePlans$Search", "tryOne", "(III)V"⟩ ⟨"PlaceTimePlans$Search", "tryOne", "(III)V"⟩ ∈ sx_T := List.mem_filter.mpr ⟨List.mem_append_left _ (List.mem_map.mpr ⟨(⟨"PlaceTimePlans$Search", "tryOne", "(III)V"⟩, 15), List.mem_of_getElem? (l := lw_privs) (i := 8) rfl, rfl⟩), rfl⟩
theorem ps_9 : Cond.selects "PlaceTimePlans$Search" ⟨"PlaceTimePlans$Search", "isMove", "(III)Z"⟩ ⟨"PlaceTimePlans$Search", "isMove", "(III)Z"⟩ ∈ sx_T := List.mem_filter.mpr ⟨List.mem_append_left _ (List.mem_map.mpr ⟨(⟨"PlaceTimePlans$Search", "isMove", "(III)Z"⟩, 15), List.mem_of_getElem? (l := lw_privs) (i := 9) rfl, rfl⟩), rfl⟩
theorem ps_10 : Cond.selects "PlaceTimePlans$Search" ⟨"PlaceTimePlans$Search", "isBetter", "(II)Z"⟩ ⟨"PlaceTimePlans$Search", "isBetter", "(II)Z"⟩ ∈ sx_T := List.mem_filter.mpr ⟨List.mem_append_left _ (List.mem_map.mpr ⟨(⟨"PlaceTimePlans$Search", "isBetter", "(II)Z"⟩, 15), List.mem_of_getElem? (l := lw_privs) (i := 10) rfl, rfl⟩), rfl⟩
theorem ps_11 : Cond.selects "PlaceTimePlans$Search" ⟨"PlaceTimePlans$Search", "keepsRules", "(III)Z"⟩ ⟨"PlaceTimePlans$Search", "keepsRules", "(III)Z"⟩ ∈ sx_T := List.mem_filter.mpr ⟨List.mem_append_left _ (List.mem_map.mpr ⟨(⟨"PlaceTimePlans$Search", "keepsRules", "(III)Z"⟩, 15), List.mem_of_getElem? (l := lw_privs) (i := 11) rfl, rfl⟩), rfl⟩
theorem ps_12 : Cond.selects "PlaceTimePlans$Rules" ⟨"PlaceTimePlans$Rules", "isCrowded", "(LPlaceTimePlans$Placing;III)Z"⟩ ⟨"PlaceTimePlans$Rules", "isCrowded", "(LPlaceTimePlans$Placing;III)Z"⟩ ∈ sx_T := List.mem_filter.mpr ⟨List.mem_append_left _ (List.mem_map.mpr ⟨(⟨"PlaceTimePlans$Rules", "isCrowded", "(LPlaceTimePlans$Placing;III)Z"⟩, 3), List.mem_of_getElem? (l := lw_privs) (i := 12) rfl, rfl⟩), rfl⟩
theorem ps_13 : Cond.selects "PlaceTimePlans$Search" ⟨"PlaceTimePlans$Search", "keepAsBest", "(I)V"⟩ ⟨"PlaceTimePlans$Search", "keepAsBest", "(I)V"⟩ ∈ sx_T := List.mem_filter.mpr ⟨List.mem_append_left _ (List.mem_map.mpr ⟨(⟨"PlaceTimePlans$Search", "keepAsBest", "(I)V"⟩, 15), List.mem_of_getElem? (l := lw_privs) (i := 13) rfl, rfl⟩), rfl⟩
theorem ps_14 : Cond.selects "PlaceTimePlans" ⟨"PlaceTimePlans", "takeOutcome", "(Z)Z"⟩ ⟨"PlaceTimePlans", "takeOutcome", "(Z)Z"⟩ ∈ sx_T := List.mem_filter.mpr ⟨List.mem_append_left _ (List.mem_map.mpr ⟨(⟨"PlaceTimePlans", "takeOutcome", "(Z)Z"⟩, 11), List.mem_of_getElem? (l := lw_privs) (i := 14) rfl, rfl⟩), rfl⟩
theorem ps_15 : Cond.selects "PlaceTimePlans" ⟨"PlaceTimePlans", "isPlanned", "(I)Z"⟩ ⟨"PlaceTimePlans", "isPlanned", "(I)Z"⟩ ∈ sx_T := List.mem_filter.mpr ⟨List.mem_append_left _ (List.mem_map.mpr ⟨(⟨"PlaceTimePlans", "isPlanned", "(I)Z"⟩, 11), List.mem_of_getElem? (l := lw_privs) (i := 15) rfl, rfl⟩), rfl⟩
theorem ps_16 : Cond.selects "PlaceTimePlans" ⟨"PlaceTimePlans", "canStartLater", "(II)Z"⟩ ⟨"PlaceTimePlans", "canStartLater", "(II)Z"⟩ ∈ sx_T := List.mem_filter.mpr ⟨List.mem_append_left _ (List.mem_map.mpr ⟨(⟨"PlaceTimePlans", "canStartLater", "(II)Z"⟩, 11), List.mem_of_getElem? (l := lw_privs) (i := 16) rfl, rfl⟩), rfl⟩
theorem ps_17 : Cond.selects "PlaceTimePlans$Weather" ⟨"PlaceTimePlans$Weather", "drawWet", "(I)Z"⟩ ⟨"PlaceTimePlans$Weather", "drawWet", "(I)Z"⟩ ∈ sx_T := List.mem_filter.mpr ⟨List.mem_append_left _ (List.mem_map.mpr ⟨(⟨"PlaceTimePlans$Weather", "drawWet", "(I)Z"⟩, 4), List.mem_of_getElem? (l := lw_privs) (i := 17) rfl, rfl⟩), rfl⟩
theorem ps_18 : Cond.selects "PlaceTimePlans$Weather" ⟨"PlaceTimePlans$Weather", "goOn", "(I)Z"⟩ ⟨"PlaceTimePlans$Weather", "goOn", "(I)Z"⟩ ∈ sx_T := List.mem_filter.mpr ⟨List.mem_append_left _ (List.mem_map.mpr ⟨(⟨"PlaceTimePlans$Weather", "goOn", "(I)Z"⟩, 4), List.mem_of_getElem? (l := lw_privs) (i := 18) rfl, rfl⟩), rfl⟩
theorem ps_19 : Cond.selects "PlaceTimePlansModel" ⟨"PlaceTimePlansModel", "changed", "()V"⟩ ⟨"PlaceTimePlansModel", "changed", "()V"⟩ ∈ sx_T := List.mem_filter.mpr ⟨List.mem_append_left _ (List.mem_map.mpr ⟨(⟨"PlaceTimePlansModel", "changed", "()V"⟩, 38), List.mem_of_getElem? (l := lw_privs) (i := 19) rfl, rfl⟩), rfl⟩
theorem ps_20 : Cond.selects "PlaceTimePlansModel" ⟨"PlaceTimePlansModel", "isWork", "(I)Z"⟩ ⟨"PlaceTimePlansModel", "isWork", "(I)Z"⟩ ∈ sx_T := List.mem_filter.mpr ⟨List.mem_append_left _ (List.mem_map.mpr ⟨(⟨"PlaceTimePlansModel", "isWork", "(I)Z"⟩, 38), List.mem_of_getElem? (l := lw_privs) (i := 20) rfl, rfl⟩), rfl⟩
theorem ps_21 : Cond.selects "PlaceTimePlansModel" ⟨"PlaceTimePlansModel", "search", "(IZ)V"⟩ ⟨"PlaceTimePlansModel", "search", "(IZ)V"⟩ ∈ sx_T := List.mem_filter.mpr ⟨List.mem_append_left _ (List.mem_map.mpr ⟨(⟨"PlaceTimePlansModel", "search", "(IZ)V"⟩, 38), List.mem_of_getElem? (l := lw_privs) (i := 21) rfl, rfl⟩), rfl⟩
theorem ps_22 : Cond.selects "PlaceTimePlansModel" ⟨"PlaceTimePlansModel", "triesOf", "(I)I"⟩ ⟨"PlaceTimePlansModel", "triesOf", "(I)I"⟩ ∈ sx_T := List.mem_filter.mpr ⟨List.mem_append_left _ (List.mem_map.mpr ⟨(⟨"PlaceTimePlansModel", "triesOf", "(I)I"⟩, 38), List.mem_of_getElem? (l := lw_privs) (i := 22) rfl, rfl⟩), rfl⟩
theorem ps_23 : Cond.selects "PlaceTimePlansModel" ⟨"PlaceTimePlansModel", "goesOn", "(IIZ)Z"⟩ ⟨"PlaceTimePlansModel", "goesOn", "(IIZ)Z"⟩ ∈ sx_T := List.mem_filter.mpr ⟨List.mem_append_left _ (List.mem_map.mpr ⟨(⟨"PlaceTimePlansModel", "goesOn", "(IIZ)Z"⟩, 38), List.mem_of_getElem? (l := lw_privs) (i := 23) rfl, rfl⟩), rfl⟩
theorem ps_24 : Cond.selects "PlaceTimePlansModel" ⟨"PlaceTimePlansModel", "isRest", "(I)Z"⟩ ⟨"PlaceTimePlansModel", "isRest", "(I)Z"⟩ ∈ sx_T := List.mem_filter.mpr ⟨List.mem_append_left _ (List.mem_map.mpr ⟨(⟨"PlaceTimePlansModel", "isRest", "(I)Z"⟩, 38), List.mem_of_getElem? (l := lw_privs) (i := 24) rfl, rfl⟩), rfl⟩
theorem ps_25 : Cond.selects "PlaceTimePlansModel" ⟨"PlaceTimePlansModel", "lay", "(IIII)V"⟩ ⟨"PlaceTimePlansModel", "lay", "(IIII)V"⟩ ∈ sx_T := List.mem_filter.mpr ⟨List.mem_append_left _ (List.mem_map.mpr ⟨(⟨"PlaceTimePlansModel", "lay", "(IIII)V"⟩, 38), List.mem_of_getElem? (l := lw_privs) (i := 25) rfl, rfl⟩), rfl⟩
theorem ps_26 : Cond.selects "PlaceTimePlansModel" ⟨"PlaceTimePlansModel", "nextDay", "(I)I"⟩ ⟨"PlaceTimePlansModel", "nextDay", "(I)I"⟩ ∈ sx_T := List.mem_filter.mpr ⟨List.mem_append_left _ (List.mem_map.mpr ⟨(⟨"PlaceTimePlansModel", "nextDay", "(I)I"⟩, 38), List.mem_of_getElem? (l := lw_privs) (i := 26) rfl, rfl⟩), rfl⟩
theorem ps_27 : Cond.selects "PlaceTimePlansModel" ⟨"PlaceTimePlansModel", "keepsAll", "(III)Z"⟩ ⟨"PlaceTimePlansModel", "keepsAll", "(III)Z"⟩ ∈ sx_T := List.mem_filter.mpr ⟨List.mem_append_left _ (List.mem_map.mpr ⟨(⟨"PlaceTimePlansModel", "keepsAll", "(III)Z"⟩, 38), List.mem_of_getElem? (l := lw_privs) (i := 27) rfl, rfl⟩), rfl⟩
theorem ps_28 : Cond.selects "PlaceTimePlansModel" ⟨"PlaceTimePlansModel", "keepsOwn", "(II)Z"⟩ ⟨"PlaceTimePlansModel", "keepsOwn", "(II)Z"⟩ ∈ sx_T := List.mem_filter.mpr ⟨List.mem_append_left _ (List.mem_map.mpr ⟨(⟨"PlaceTimePlansModel", "keepsOwn", "(II)Z"⟩, 38), List.mem_of_getElem? (l := lw_privs) (i := 28) rfl, rfl⟩), rfl⟩
theorem ps_29 : Cond.selects "PlaceTimePlansModel" ⟨"PlaceTimePlansModel", "goesWith", "(IIII)Z"⟩ ⟨"PlaceTimePlansModel", "goesWith", "(IIII)Z"⟩ ∈ sx_T := List.mem_filter.mpr ⟨List.mem_append_left _ (List.mem_map.mpr ⟨(⟨"PlaceTimePlansModel", "goesWith", "(IIII)Z"⟩, 38), List.mem_of_getElem? (l := lw_privs) (i := 29) rfl, rfl⟩), rfl⟩
theorem ps_30 : Cond.selects "PlaceTimePlansModel" ⟨"PlaceTimePlansModel", "comesAfter", "(IIII)Z"⟩ ⟨"PlaceTimePlansModel", "comesAfter", "(IIII)Z"⟩ ∈ sx_T := List.mem_filter.mpr ⟨List.mem_append_left _ (List.mem_map.mpr ⟨(⟨"PlaceTimePlansModel", "comesAfter", "(IIII)Z"⟩, 38), List.mem_of_getElem? (l := lw_privs) (i := 30) rfl, rfl⟩), rfl⟩
theorem ps_31 : Cond.selects "PlaceTimePlansModel" ⟨"PlaceTimePlansModel", "isUnder", "(II)Z"⟩ ⟨"PlaceTimePlansModel", "isUnder", "(II)Z"⟩ ∈ sx_T := List.mem_filter.mpr ⟨List.mem_append_left _ (List.mem_map.mpr ⟨(⟨"PlaceTimePlansModel", "isUnder", "(II)Z"⟩, 38), List.mem_of_getElem? (l := lw_privs) (i := 31) rfl, rfl⟩), rfl⟩
theorem ps_32 : Cond.selects "PlaceTimePlansModel" ⟨"PlaceTimePlansModel", "isBetter", "(IZ)Z"⟩ ⟨"PlaceTimePlansModel", "isBetter", "(IZ)Z"⟩ ∈ sx_T := List.mem_filter.mpr ⟨List.mem_append_left _ (List.mem_map.mpr ⟨(⟨"PlaceTimePlansModel", "isBetter", "(IZ)Z"⟩, 38), List.mem_of_getElem? (l := lw_privs) (i := 32) rfl, rfl⟩), rfl⟩
theorem ps_33 : Cond.selects "PlaceTimePlansModel" ⟨"PlaceTimePlansModel", "greatestEnd", "(I)I"⟩ ⟨"PlaceTimePlansModel", "greatestEnd", "(I)I"⟩ ∈ sx_T := List.mem_filter.mpr ⟨List.mem_append_left _ (List.mem_map.mpr ⟨(⟨"PlaceTimePlansModel", "greatestEnd", "(I)I"⟩, 38), List.mem_of_getElem? (l := lw_privs) (i := 33) rfl, rfl⟩), rfl⟩
theorem ps_34 : Cond.selects "PlaceTimePlansModel" ⟨"PlaceTimePlansModel", "movedSoFar", "(I)I"⟩ ⟨"PlaceTimePlansModel", "movedSoFar", "(I)I"⟩ ∈ sx_T := List.mem_filter.mpr ⟨List.mem_append_left _ (List.mem_map.mpr ⟨(⟨"PlaceTimePlansModel", "movedSoFar", "(I)I"⟩, 38), List.mem_of_getElem? (l := lw_privs) (i := 34) rfl, rfl⟩), rfl⟩
theorem ps_35 : Cond.selects "PlaceTimePlansModel" ⟨"PlaceTimePlansModel", "take", "(Z)V"⟩ ⟨"PlaceTimePlansModel", "take", "(Z)V"⟩ ∈ sx_T := List.mem_filter.mpr ⟨List.mem_append_left _ (List.mem_map.mpr ⟨(⟨"PlaceTimePlansModel", "take", "(Z)V"⟩, 38), List.mem_of_getElem? (l := lw_privs) (i := 35) rfl, rfl⟩), rfl⟩
theorem ps_36 : Cond.selects "PlaceTimePlansModel" ⟨"PlaceTimePlansModel", "layPlan", "()V"⟩ ⟨"PlaceTimePlansModel", "layPlan", "()V"⟩ ∈ sx_T := List.mem_filter.mpr ⟨List.mem_append_left _ (List.mem_map.mpr ⟨(⟨"PlaceTimePlansModel", "layPlan", "()V"⟩, 38), List.mem_of_getElem? (l := lw_privs) (i := 36) rfl, rfl⟩), rfl⟩
theorem ps_37 : Cond.selects "PlaceTimePlansModel" ⟨"PlaceTimePlansModel", "daysOf", "(I)I"⟩ ⟨"PlaceTimePlansModel", "daysOf", "(I)I"⟩ ∈ sx_T := List.mem_filter.mpr ⟨List.mem_append_left _ (List.mem_map.mpr ⟨(⟨"PlaceTimePlansModel", "daysOf", "(I)I"⟩, 38), List.mem_of_getElem? (l := lw_privs) (i := 37) rfl, rfl⟩), rfl⟩
theorem ps_38 : Cond.selects "PlaceTimePlansModel" ⟨"PlaceTimePlansModel", "isLone", "(I)Z"⟩ ⟨"PlaceTimePlansModel", "isLone", "(I)Z"⟩ ∈ sx_T := List.mem_filter.mpr ⟨List.mem_append_left _ (List.mem_map.mpr ⟨(⟨"PlaceTimePlansModel", "isLone", "(I)Z"⟩, 38), List.mem_of_getElem? (l := lw_privs) (i := 38) rfl, rfl⟩), rfl⟩
theorem ps_39 : Cond.selects "PlaceTimePlansModel" ⟨"PlaceTimePlansModel", "wetEnd", "(I)I"⟩ ⟨"PlaceTimePlansModel", "wetEnd", "(I)I"⟩ ∈ sx_T := List.mem_filter.mpr ⟨List.mem_append_left _ (List.mem_map.mpr ⟨(⟨"PlaceTimePlansModel", "wetEnd", "(I)I"⟩, 38), List.mem_of_getElem? (l := lw_privs) (i := 39) rfl, rfl⟩), rfl⟩
end
section
abbrev sx_Y : Type := MethodName × ByteArray × Nat × Option FieldType
abbrev b_D_init : ByteArray := prog_2_method_1_code
abbrev y_D_init : sx_Y := (⟨"PlaceTimePlans$Days", "<init>", "()V"⟩, b_D_init, 1, none)
abbrev b_D_before : ByteArray := prog_2_method_4_code
abbrev y_D_before : sx_Y := (⟨"PlaceTimePlans$Days", "before", "(I)I"⟩, b_D_before, 2, (some .int))
abbrev b_D_countWorkingDays : ByteArray := prog_2_method_6_code
abbrev y_D_countWorkingDays : sx_Y := (⟨"PlaceTimePlans$Days", "countWorkingDays", "()V"⟩, b_D_countWorkingDays, 3, none)
abbrev b_D_dayOf : ByteArray := prog_2_method_5_code
abbrev y_D_dayOf : sx_Y := (⟨"PlaceTimePlans$Days", "dayOf", "(I)I"⟩, b_D_dayOf, 2, (some .int))
abbrev b_D_giveRest : ByteArray := prog_2_method_3_code
abbrev y_D_giveRest : sx_Y := (⟨"PlaceTimePlans$Days", "giveRest", "(I)V"⟩, b_D_giveRest, 2, none)
abbrev b_D_isWorking : ByteArray := prog_2_method_2_code
abbrev y_D_isWorking : sx_Y := (⟨"PlaceTimePlans$Days", "isWorking", "(I)Z"⟩, b_D_isWorking, 2, (some .boolean))
abbrev b_H_init : ByteArray := prog_7_method_1_code
abbrev y_H_init : sx_Y := (⟨"PlaceTimePlans$Weather", "<init>", "(LPlaceTimePlans$Line;LPlaceTimePlans$Placing;)V"⟩, b_H_init, 3, none)
abbrev b_H_begin : ByteArray := prog_7_method_2_code
abbrev y_H_begin : sx_Y := (⟨"PlaceTimePlans$Weather", "begin", "(I)V"⟩, b_H_begin, 2, none)
abbrev b_H_drawEnd : ByteArray := prog_7_method_3_code
abbrev y_H_drawEnd : sx_Y := (⟨"PlaceTimePlans$Weather", "drawEnd", "(I)I"⟩, b_H_drawEnd, 5, (some .int))
abbrev b_H_drawWet : ByteArray := prog_7_method_4_code
abbrev y_H_drawWet : sx_Y := (⟨"PlaceTimePlans$Weather", "drawWet", "(I)Z"⟩, b_H_drawWet, 2, (some .boolean))
abbrev b_H_goOn : ByteArray := prog_7_method_5_code
abbrev y_H_goOn : sx_Y := (⟨"PlaceTimePlans$Weather", "goOn", "(I)Z"⟩, b_H_goOn, 4, (some .boolean))
abbrev b_J_floorDiv : ByteArray := prog_12_method_47_code
abbrev y_J_floorDiv : sx_Y := (⟨"java/lang/Math", "floorDiv", "(II)I"⟩, b_J_floorDiv, 3, (some .int))
abbrev b_J_max : ByteArray := prog_12_method_65_code
abbrev y_J_max : sx_Y := (⟨"java/lang/Math", "max", "(II)I"⟩, b_J_max, 2, (some .int))
abbrev b_J_min : ByteArray := prog_12_method_69_code
abbrev y_J_min : sx_Y := (⟨"java/lang/Math", "min", "(II)I"⟩, b_J_min, 2, (some .int))
abbrev b_K_init : ByteArray := prog_9_method_1_code
abbrev y_K_init : sx_Y := (⟨"PlaceTimePlans$Work", "<init>", "()V"⟩, b_K_init, 1, none)
abbrev b_K_comesTo : ByteArray := prog_9_method_3_code
abbrev y_K_comesTo : sx_Y := (⟨"PlaceTimePlans$Work", "comesTo", "(I)Z"⟩, b_K_comesTo, 2, (some .boolean))
abbrev b_K_setSpeed : ByteArray := prog_9_method_2_code
abbrev y_K_setSpeed : sx_Y := (⟨"PlaceTimePlans$Work", "setSpeed", "(I)V"⟩, b_K_setSpeed, 2, none)
abbrev b_K_wayTo : ByteArray := prog_9_method_4_code
abbrev y_K_wayTo : sx_Y := (⟨"PlaceTimePlans$Work", "wayTo", "(II)I"⟩, b_K_wayTo, 3, (some .int))
abbrev b_K_wholeDays : ByteArray := prog_9_method_5_code
abbrev y_K_wholeDays : sx_Y := (⟨"PlaceTimePlans$Work", "wholeDays", "(IZ)I"⟩, b_K_wholeDays, 4, (some .int))
abbrev b_L_init : ByteArray := prog_3_method_1_code
abbrev y_L_init : sx_Y := (⟨"PlaceTimePlans$Line", "<init>", "()V"⟩, b_L_init, 2, none)
abbrev b_L_addBar : ByteArray := prog_3_method_4_code
abbrev y_L_addBar : sx_Y := (⟨"PlaceTimePlans$Line", "addBar", "(III)V"⟩, b_L_addBar, 4, none)
abbrev b_L_addCrew : ByteArray := prog_3_method_2_code
abbrev y_L_addCrew : sx_Y := (⟨"PlaceTimePlans$Line", "addCrew", "(I)I"⟩, b_L_addCrew, 2, (some .int))
abbrev b_L_addWork : ByteArray := prog_3_method_3_code
abbrev y_L_addWork : sx_Y := (⟨"PlaceTimePlans$Line", "addWork", "(IIIIZ)I"⟩, b_L_addWork, 7, (some .int))
abbrev b_L_daysOfCrew : ByteArray := prog_3_method_12_code
abbrev y_L_daysOfCrew : sx_Y := (⟨"PlaceTimePlans$Line", "daysOfCrew", "(I)I"⟩, b_L_daysOfCrew, 4, (some .int))
abbrev b_L_endOf : ByteArray := prog_3_method_9_code
abbrev y_L_endOf : sx_Y := (⟨"PlaceTimePlans$Line", "endOf", "(II)I"⟩, b_L_endOf, 3, (some .int))
abbrev b_L_firstShared : ByteArray := prog_3_method_7_code
abbrev y_L_firstShared : sx_Y := (⟨"PlaceTimePlans$Line", "firstShared", "(II)I"⟩, b_L_firstShared, 3, (some .int))
abbrev b_L_frozenWorks : ByteArray := prog_3_method_13_code
abbrev y_L_frozenWorks : sx_Y := (⟨"PlaceTimePlans$Line", "frozenWorks", "()I"⟩, b_L_frozenWorks, 3, (some .int))
abbrev b_L_gapBetween : ByteArray := prog_3_method_6_code
abbrev y_L_gapBetween : sx_Y := (⟨"PlaceTimePlans$Line", "gapBetween", "(II)I"⟩, b_L_gapBetween, 4, (some .int))
abbrev b_L_lastShared : ByteArray := prog_3_method_8_code
abbrev y_L_lastShared : sx_Y := (⟨"PlaceTimePlans$Line", "lastShared", "(II)I"⟩, b_L_lastShared, 3, (some .int))
abbrev b_L_passTime : ByteArray := prog_3_method_10_code
abbrev y_L_passTime : sx_Y := (⟨"PlaceTimePlans$Line", "passTime", "(ILPlaceTimePlans$Placing;IZ)I"⟩, b_L_passTime, 9, (some .int))
abbrev b_L_placeOn : ByteArray := prog_3_method_11_code
abbrev y_L_placeOn : sx_Y := (⟨"PlaceTimePlans$Line", "placeOn", "(ILPlaceTimePlans$Placing;I)I"⟩, b_L_placeOn, 7, (some .int))
abbrev b_L_setGap : ByteArray := prog_3_method_5_code
abbrev y_L_setGap : sx_Y := (⟨"PlaceTimePlans$Line", "setGap", "(III)V"⟩, b_L_setGap, 4, none)
abbrev b_M_init : ByteArray := prog_11_method_1_code
abbrev y_M_init : sx_Y := (⟨"PlaceTimePlansModel", "<init>", "()V"⟩, b_M_init, 2, none)
abbrev b_M_after : ByteArray := prog_11_method_7_code
abbrev y_M_after : sx_Y := (⟨"PlaceTimePlansModel", "after", "(III)Z"⟩, b_M_after, 4, (some .boolean))
abbrev b_M_at : ByteArray := prog_11_method_34_code
abbrev y_M_at : sx_Y := (⟨"PlaceTimePlansModel", "at", "(II)I"⟩, b_M_at, 6, (some .int))
abbrev b_M_bar : ByteArray := prog_11_method_9_code
abbrev y_M_bar : sx_Y := (⟨"PlaceTimePlansModel", "bar", "(III)Z"⟩, b_M_bar, 4, (some .boolean))
abbrev b_M_bound : ByteArray := prog_11_method_40_code
abbrev y_M_bound : sx_Y := (⟨"PlaceTimePlansModel", "bound", "()I"⟩, b_M_bound, 5, (some .int))
abbrev b_M_changed : ByteArray := prog_11_method_4_code
abbrev y_M_changed : sx_Y := (⟨"PlaceTimePlansModel", "changed", "()V"⟩, b_M_changed, 2, none)
abbrev b_M_comesAfter : ByteArray := prog_11_method_17_code
abbrev y_M_comesAfter : sx_Y := (⟨"PlaceTimePlansModel", "comesAfter", "(IIII)Z"⟩, b_M_comesAfter, 11, (some .boolean))
abbrev b_M_common : ByteArray := prog_11_method_35_code
abbrev y_M_common : sx_Y := (⟨"PlaceTimePlansModel", "common", "(II)I"⟩, b_M_common, 5, (some .int))
abbrev b_M_count : ByteArray := prog_11_method_49_code
abbrev y_M_count : sx_Y := (⟨"PlaceTimePlansModel", "count", "(I)I"⟩, b_M_count, 4, (some .int))
abbrev b_M_crew : ByteArray := prog_11_method_5_code
abbrev y_M_crew : sx_Y := (⟨"PlaceTimePlansModel", "crew", "(I)I"⟩, b_M_crew, 2, (some .int))
abbrev b_M_crosses : ByteArray := prog_11_method_37_code
abbrev y_M_crosses : sx_Y := (⟨"PlaceTimePlansModel", "crosses", "(II)Z"⟩, b_M_crosses, 10, (some .boolean))
abbrev b_M_daysOf : ByteArray := prog_11_method_39_code
abbrev y_M_daysOf : sx_Y := (⟨"PlaceTimePlansModel", "daysOf", "(I)I"⟩, b_M_daysOf, 2, (some .int))
abbrev b_M_freeze : ByteArray := prog_11_method_44_code
abbrev y_M_freeze : sx_Y := (⟨"PlaceTimePlansModel", "freeze", "(I)I"⟩, b_M_freeze, 4, (some .int))
abbrev b_M_goesOn : ByteArray := prog_11_method_25_code
abbrev y_M_goesOn : sx_Y := (⟨"PlaceTimePlansModel", "goesOn", "(IIZ)Z"⟩, b_M_goesOn, 6, (some .boolean))
abbrev b_M_goesWith : ByteArray := prog_11_method_18_code
abbrev y_M_goesWith : sx_Y := (⟨"PlaceTimePlansModel", "goesWith", "(IIII)Z"⟩, b_M_goesWith, 6, (some .boolean))
abbrev b_M_greatestEnd : ByteArray := prog_11_method_23_code
abbrev y_M_greatestEnd : sx_Y := (⟨"PlaceTimePlansModel", "greatestEnd", "(I)I"⟩, b_M_greatestEnd, 4, (some .int))
abbrev b_M_isBetter : ByteArray := prog_11_method_24_code
abbrev y_M_isBetter : sx_Y := (⟨"PlaceTimePlansModel", "isBetter", "(IZ)Z"⟩, b_M_isBetter, 5, (some .boolean))
abbrev b_M_isLone : ByteArray := prog_11_method_41_code
abbrev y_M_isLone : sx_Y := (⟨"PlaceTimePlansModel", "isLone", "(I)Z"⟩, b_M_isLone, 4, (some .boolean))
abbrev b_M_isRest : ByteArray := prog_11_method_13_code
abbrev y_M_isRest : sx_Y := (⟨"PlaceTimePlansModel", "isRest", "(I)Z"⟩, b_M_isRest, 2, (some .boolean))
abbrev b_M_isUnder : ByteArray := prog_11_method_19_code
abbrev y_M_isUnder : sx_Y := (⟨"PlaceTimePlansModel", "isUnder", "(II)Z"⟩, b_M_isUnder, 3, (some .boolean))
abbrev b_M_isWork : ByteArray := prog_11_method_3_code
abbrev y_M_isWork : sx_Y := (⟨"PlaceTimePlansModel", "isWork", "(I)Z"⟩, b_M_isWork, 2, (some .boolean))
abbrev b_M_keepsAll : ByteArray := prog_11_method_20_code
abbrev y_M_keepsAll : sx_Y := (⟨"PlaceTimePlansModel", "keepsAll", "(III)Z"⟩, b_M_keepsAll, 8, (some .boolean))
abbrev b_M_keepsOwn : ByteArray := prog_11_method_16_code
abbrev y_M_keepsOwn : sx_Y := (⟨"PlaceTimePlansModel", "keepsOwn", "(II)Z"⟩, b_M_keepsOwn, 5, (some .boolean))
abbrev b_M_late : ByteArray := prog_11_method_43_code
abbrev y_M_late : sx_Y := (⟨"PlaceTimePlansModel", "late", "(II)Z"⟩, b_M_late, 3, (some .boolean))
abbrev b_M_lay : ByteArray := prog_11_method_15_code
abbrev y_M_lay : sx_Y := (⟨"PlaceTimePlansModel", "lay", "(IIII)V"⟩, b_M_lay, 11, none)
abbrev b_M_layPlan : ByteArray := prog_11_method_32_code
abbrev y_M_layPlan : sx_Y := (⟨"PlaceTimePlansModel", "layPlan", "()V"⟩, b_M_layPlan, 2, none)
abbrev b_M_learned : ByteArray := prog_11_method_12_code
abbrev y_M_learned : sx_Y := (⟨"PlaceTimePlansModel", "learned", "(III)I"⟩, b_M_learned, 5, (some .int))
abbrev b_M_lone : ByteArray := prog_11_method_42_code
abbrev y_M_lone : sx_Y := (⟨"PlaceTimePlansModel", "lone", "(I)I"⟩, b_M_lone, 4, (some .int))
abbrev b_M_most : ByteArray := prog_11_method_11_code
abbrev y_M_most : sx_Y := (⟨"PlaceTimePlansModel", "most", "(II)I"⟩, b_M_most, 4, (some .int))
abbrev b_M_moved : ByteArray := prog_11_method_45_code
abbrev y_M_moved : sx_Y := (⟨"PlaceTimePlansModel", "moved", "(I)Z"⟩, b_M_moved, 2, (some .boolean))
abbrev b_M_movedSoFar : ByteArray := prog_11_method_22_code
abbrev y_M_movedSoFar : sx_Y := (⟨"PlaceTimePlansModel", "movedSoFar", "(I)I"⟩, b_M_movedSoFar, 4, (some .int))
abbrev b_M_nextDay : ByteArray := prog_11_method_14_code
abbrev y_M_nextDay : sx_Y := (⟨"PlaceTimePlansModel", "nextDay", "(I)I"⟩, b_M_nextDay, 3, (some .int))
abbrev b_M_odds : ByteArray := prog_11_method_48_code
abbrev y_M_odds : sx_Y := (⟨"PlaceTimePlansModel", "odds", "(IIII)I"⟩, b_M_odds, 10, (some .int))
abbrev b_M_passes : ByteArray := prog_11_method_36_code
abbrev y_M_passes : sx_Y := (⟨"PlaceTimePlansModel", "passes", "(IIZI)I"⟩, b_M_passes, 7, (some .int))
abbrev b_M_proved : ByteArray := prog_11_method_30_code
abbrev y_M_proved : sx_Y := (⟨"PlaceTimePlansModel", "proved", "()Z"⟩, b_M_proved, 1, (some .boolean))
abbrev b_M_replan : ByteArray := prog_11_method_29_code
abbrev y_M_replan : sx_Y := (⟨"PlaceTimePlansModel", "replan", "(I)I"⟩, b_M_replan, 2, (some .int))
abbrev b_M_rest : ByteArray := prog_11_method_10_code
abbrev y_M_rest : sx_Y := (⟨"PlaceTimePlansModel", "rest", "(I)Z"⟩, b_M_rest, 2, (some .boolean))
abbrev b_M_run : ByteArray := prog_11_method_28_code
abbrev y_M_run : sx_Y := (⟨"PlaceTimePlansModel", "run", "(I)I"⟩, b_M_run, 2, (some .int))
abbrev b_M_search : ByteArray := prog_11_method_26_code
abbrev y_M_search : sx_Y := (⟨"PlaceTimePlansModel", "search", "(IZ)V"⟩, b_M_search, 6, none)
abbrev b_M_season : ByteArray := prog_11_method_8_code
abbrev y_M_season : sx_Y := (⟨"PlaceTimePlansModel", "season", "(III)Z"⟩, b_M_season, 4, (some .boolean))
abbrev b_M_slack : ByteArray := prog_11_method_46_code
abbrev y_M_slack : sx_Y := (⟨"PlaceTimePlansModel", "slack", "(I)I"⟩, b_M_slack, 5, (some .int))
abbrev b_M_take : ByteArray := prog_11_method_27_code
abbrev y_M_take : sx_Y := (⟨"PlaceTimePlansModel", "take", "(Z)V"⟩, b_M_take, 3, none)
abbrev b_M_told : ByteArray := prog_11_method_33_code
abbrev y_M_told : sx_Y := (⟨"PlaceTimePlansModel", "told", "(II)I"⟩, b_M_told, 3, (some .int))
abbrev b_M_tried : ByteArray := prog_11_method_31_code
abbrev y_M_tried : sx_Y := (⟨"PlaceTimePlansModel", "tried", "()I"⟩, b_M_tried, 1, (some .int))
abbrev b_M_triesOf : ByteArray := prog_11_method_21_code
abbrev y_M_triesOf : sx_Y := (⟨"PlaceTimePlansModel", "triesOf", "(I)I"⟩, b_M_triesOf, 2, (some .int))
abbrev b_M_under : ByteArray := prog_11_method_38_code
abbrev y_M_under : sx_Y := (⟨"PlaceTimePlansModel", "under", "(II)I"⟩, b_M_under, 5, (some .int))
abbrev b_M_wetEnd : ByteArray := prog_11_method_47_code
abbrev y_M_wetEnd : sx_Y := (⟨"PlaceTimePlansModel", "wetEnd", "(I)I"⟩, b_M_wetEnd, 5, (some .int))
abbrev b_M_within : ByteArray := prog_11_method_2_code
abbrev y_M_within : sx_Y := (⟨"PlaceTimePlansModel", "within", "(III)Z"⟩, b_M_within, 3, (some .boolean))
abbrev b_M_work : ByteArray := prog_11_method_6_code
abbrev y_M_work : sx_Y := (⟨"PlaceTimePlansModel", "work", "(IIIIZ)I"⟩, b_M_work, 7, (some .int))
abbrev b_P_init : ByteArray := prog_4_method_1_code
abbrev y_P_init : sx_Y := (⟨"PlaceTimePlans$Placing", "<init>", "()V"⟩, b_P_init, 1, none)
abbrev b_P_isElsewhere : ByteArray := prog_4_method_3_code
abbrev y_P_isElsewhere : sx_Y := (⟨"PlaceTimePlans$Placing", "isElsewhere", "(III)Z"⟩, b_P_isElsewhere, 4, (some .boolean))
abbrev b_P_put : ByteArray := prog_4_method_2_code
abbrev y_P_put : sx_Y := (⟨"PlaceTimePlans$Placing", "put", "(III)V"⟩, b_P_put, 4, none)
abbrev b_R_init : ByteArray := prog_5_method_1_code
abbrev y_R_init : sx_Y := (⟨"PlaceTimePlans$Rules", "<init>", "(LPlaceTimePlans$Line;)V"⟩, b_R_init, 2, none)
abbrev b_R_canStandAlone : ByteArray := prog_5_method_2_code
abbrev y_R_canStandAlone : sx_Y := (⟨"PlaceTimePlans$Rules", "canStandAlone", "(I)Z"⟩, b_R_canStandAlone, 2, (some .boolean))
abbrev b_R_firstStart : ByteArray := prog_5_method_6_code
abbrev y_R_firstStart : sx_Y := (⟨"PlaceTimePlans$Rules", "firstStart", "(LPlaceTimePlans$Work;III)I"⟩, b_R_firstStart, 9, (some .int))
abbrev b_R_hasRoom : ByteArray := prog_5_method_8_code
abbrev y_R_hasRoom : sx_Y := (⟨"PlaceTimePlans$Rules", "hasRoom", "(LPlaceTimePlans$Placing;III)Z"⟩, b_R_hasRoom, 12, (some .boolean))
abbrev b_R_isCrowded : ByteArray := prog_5_method_9_code
abbrev y_R_isCrowded : sx_Y := (⟨"PlaceTimePlans$Rules", "isCrowded", "(LPlaceTimePlans$Placing;III)Z"⟩, b_R_isCrowded, 9, (some .boolean))
abbrev b_R_keepGaps : ByteArray := prog_5_method_5_code
abbrev y_R_keepGaps : sx_Y := (⟨"PlaceTimePlans$Rules", "keepGaps", "(LPlaceTimePlans$Window;LPlaceTimePlans$Placing;III)V"⟩, b_R_keepGaps, 14, none)
abbrev b_R_lastStart : ByteArray := prog_5_method_7_code
abbrev y_R_lastStart : sx_Y := (⟨"PlaceTimePlans$Rules", "lastStart", "(LPlaceTimePlans$Work;III)I"⟩, b_R_lastStart, 9, (some .int))
abbrev b_R_open : ByteArray := prog_5_method_3_code
abbrev y_R_open : sx_Y := (⟨"PlaceTimePlans$Rules", "open", "(LPlaceTimePlans$Window;LPlaceTimePlans$Placing;III)V"⟩, b_R_open, 7, none)
abbrev b_R_openAlone : ByteArray := prog_5_method_4_code
abbrev y_R_openAlone : sx_Y := (⟨"PlaceTimePlans$Rules", "openAlone", "(LPlaceTimePlans$Window;II)V"⟩, b_R_openAlone, 9, none)
abbrev b_S_init : ByteArray := prog_6_method_1_code
abbrev y_S_init : sx_Y := (⟨"PlaceTimePlans$Search", "<init>", "(LPlaceTimePlans$Line;LPlaceTimePlans$Rules;LPlaceTimePlans$Placing;)V"⟩, b_S_init, 5, none)
abbrev b_S_isBetter : ByteArray := prog_6_method_6_code
abbrev y_S_isBetter : sx_Y := (⟨"PlaceTimePlans$Search", "isBetter", "(II)Z"⟩, b_S_isBetter, 3, (some .boolean))
abbrev b_S_isMove : ByteArray := prog_6_method_5_code
abbrev y_S_isMove : sx_Y := (⟨"PlaceTimePlans$Search", "isMove", "(III)Z"⟩, b_S_isMove, 4, (some .boolean))
abbrev b_S_keepAsBest : ByteArray := prog_6_method_8_code
abbrev y_S_keepAsBest : sx_Y := (⟨"PlaceTimePlans$Search", "keepAsBest", "(I)V"⟩, b_S_keepAsBest, 3, none)
abbrev b_S_keepsRules : ByteArray := prog_6_method_7_code
abbrev y_S_keepsRules : sx_Y := (⟨"PlaceTimePlans$Search", "keepsRules", "(III)Z"⟩, b_S_keepsRules, 4, (some .boolean))
abbrev b_S_seek : ByteArray := prog_6_method_2_code
abbrev y_S_seek : sx_Y := (⟨"PlaceTimePlans$Search", "seek", "(IZ)V"⟩, b_S_seek, 3, none)
abbrev b_S_tryOne : ByteArray := prog_6_method_4_code
abbrev y_S_tryOne : sx_Y := (⟨"PlaceTimePlans$Search", "tryOne", "(III)V"⟩, b_S_tryOne, 6, none)
abbrev b_S_tryStarts : ByteArray := prog_6_method_3_code
abbrev y_S_tryStarts : sx_Y := (⟨"PlaceTimePlans$Search", "tryStarts", "(I)V"⟩, b_S_tryStarts, 9, none)
abbrev b_T_init : ByteArray := prog_1_method_1_code
abbrev y_T_init : sx_Y := (⟨"PlaceTimePlans", "<init>", "()V"⟩, b_T_init, 1, none)
abbrev b_T_after : ByteArray := prog_1_method_4_code
abbrev y_T_after : sx_Y := (⟨"PlaceTimePlans", "after", "(III)Z"⟩, b_T_after, 4, (some .boolean))
abbrev b_T_at : ByteArray := prog_1_method_14_code
abbrev y_T_at : sx_Y := (⟨"PlaceTimePlans", "at", "(II)I"⟩, b_T_at, 3, (some .int))
abbrev b_T_bar : ByteArray := prog_1_method_6_code
abbrev y_T_bar : sx_Y := (⟨"PlaceTimePlans", "bar", "(III)Z"⟩, b_T_bar, 4, (some .boolean))
abbrev b_T_bound : ByteArray := prog_1_method_18_code
abbrev y_T_bound : sx_Y := (⟨"PlaceTimePlans", "bound", "()I"⟩, b_T_bound, 3, (some .int))
abbrev b_T_canStartLater : ByteArray := prog_1_method_33_code
abbrev y_T_canStartLater : sx_Y := (⟨"PlaceTimePlans", "canStartLater", "(II)Z"⟩, b_T_canStartLater, 3, (some .boolean))
abbrev b_T_commonDivisor : ByteArray := prog_1_method_34_code
abbrev y_T_commonDivisor : sx_Y := (⟨"PlaceTimePlans", "commonDivisor", "(II)I"⟩, b_T_commonDivisor, 3, (some .int))
abbrev b_T_count : ByteArray := prog_1_method_26_code
abbrev y_T_count : sx_Y := (⟨"PlaceTimePlans", "count", "(I)I"⟩, b_T_count, 2, (some .int))
abbrev b_T_crew : ByteArray := prog_1_method_2_code
abbrev y_T_crew : sx_Y := (⟨"PlaceTimePlans", "crew", "(I)I"⟩, b_T_crew, 3, (some .int))
abbrev b_T_crosses : ByteArray := prog_1_method_16_code
abbrev y_T_crosses : sx_Y := (⟨"PlaceTimePlans", "crosses", "(II)Z"⟩, b_T_crosses, 9, (some .boolean))
abbrev b_T_forgetPlan : ByteArray := prog_1_method_31_code
abbrev y_T_forgetPlan : sx_Y := (⟨"PlaceTimePlans", "forgetPlan", "()V"⟩, b_T_forgetPlan, 2, none)
abbrev b_T_freeze : ByteArray := prog_1_method_21_code
abbrev y_T_freeze : sx_Y := (⟨"PlaceTimePlans", "freeze", "(I)I"⟩, b_T_freeze, 3, (some .int))
abbrev b_T_isKind : ByteArray := prog_1_method_29_code
abbrev y_T_isKind : sx_Y := (⟨"PlaceTimePlans", "isKind", "(I)Z"⟩, b_T_isKind, 1, (some .boolean))
abbrev b_T_isPlanned : ByteArray := prog_1_method_28_code
abbrev y_T_isPlanned : sx_Y := (⟨"PlaceTimePlans", "isPlanned", "(I)Z"⟩, b_T_isPlanned, 2, (some .boolean))
abbrev b_T_isWithin : ByteArray := prog_1_method_30_code
abbrev y_T_isWithin : sx_Y := (⟨"PlaceTimePlans", "isWithin", "(III)Z"⟩, b_T_isWithin, 3, (some .boolean))
abbrev b_T_isWork : ByteArray := prog_1_method_27_code
abbrev y_T_isWork : sx_Y := (⟨"PlaceTimePlans", "isWork", "(I)Z"⟩, b_T_isWork, 2, (some .boolean))
abbrev b_T_late : ByteArray := prog_1_method_20_code
abbrev y_T_late : sx_Y := (⟨"PlaceTimePlans", "late", "(II)Z"⟩, b_T_late, 3, (some .boolean))
abbrev b_T_learned : ByteArray := prog_1_method_9_code
abbrev y_T_learned : sx_Y := (⟨"PlaceTimePlans", "learned", "(III)I"⟩, b_T_learned, 5, (some .int))
abbrev b_T_lone : ByteArray := prog_1_method_19_code
abbrev y_T_lone : sx_Y := (⟨"PlaceTimePlans", "lone", "(I)I"⟩, b_T_lone, 4, (some .int))
abbrev b_T_most : ByteArray := prog_1_method_8_code
abbrev y_T_most : sx_Y := (⟨"PlaceTimePlans", "most", "(II)I"⟩, b_T_most, 4, (some .int))
abbrev b_T_moved : ByteArray := prog_1_method_23_code
abbrev y_T_moved : sx_Y := (⟨"PlaceTimePlans", "moved", "(I)Z"⟩, b_T_moved, 2, (some .boolean))
abbrev b_T_odds : ByteArray := prog_1_method_25_code
abbrev y_T_odds : sx_Y := (⟨"PlaceTimePlans", "odds", "(IIII)I"⟩, b_T_odds, 7, (some .int))
abbrev b_T_passes : ByteArray := prog_1_method_15_code
abbrev y_T_passes : sx_Y := (⟨"PlaceTimePlans", "passes", "(IIZI)I"⟩, b_T_passes, 8, (some .int))
abbrev b_T_proved : ByteArray := prog_1_method_11_code
abbrev y_T_proved : sx_Y := (⟨"PlaceTimePlans", "proved", "()Z"⟩, b_T_proved, 1, (some .boolean))
abbrev b_T_replan : ByteArray := prog_1_method_22_code
abbrev y_T_replan : sx_Y := (⟨"PlaceTimePlans", "replan", "(I)I"⟩, b_T_replan, 2, (some .int))
abbrev b_T_rest : ByteArray := prog_1_method_7_code
abbrev y_T_rest : sx_Y := (⟨"PlaceTimePlans", "rest", "(I)Z"⟩, b_T_rest, 2, (some .boolean))
abbrev b_T_run : ByteArray := prog_1_method_10_code
abbrev y_T_run : sx_Y := (⟨"PlaceTimePlans", "run", "(I)I"⟩, b_T_run, 2, (some .int))
abbrev b_T_season : ByteArray := prog_1_method_5_code
abbrev y_T_season : sx_Y := (⟨"PlaceTimePlans", "season", "(III)Z"⟩, b_T_season, 5, (some .boolean))
abbrev b_T_slack : ByteArray := prog_1_method_24_code
abbrev y_T_slack : sx_Y := (⟨"PlaceTimePlans", "slack", "(I)I"⟩, b_T_slack, 4, (some .int))
abbrev b_T_takeOutcome : ByteArray := prog_1_method_32_code
abbrev y_T_takeOutcome : sx_Y := (⟨"PlaceTimePlans", "takeOutcome", "(Z)Z"⟩, b_T_takeOutcome, 5, (some .boolean))
abbrev b_T_told : ByteArray := prog_1_method_13_code
abbrev y_T_told : sx_Y := (⟨"PlaceTimePlans", "told", "(II)I"⟩, b_T_told, 3, (some .int))
abbrev b_T_tried : ByteArray := prog_1_method_12_code
abbrev y_T_tried : sx_Y := (⟨"PlaceTimePlans", "tried", "()I"⟩, b_T_tried, 1, (some .int))
abbrev b_T_under : ByteArray := prog_1_method_17_code
abbrev y_T_under : sx_Y := (⟨"PlaceTimePlans", "under", "(II)I"⟩, b_T_under, 6, (some .int))
abbrev b_T_work : ByteArray := prog_1_method_3_code
abbrev y_T_work : sx_Y := (⟨"PlaceTimePlans", "work", "(IIIIZ)I"⟩, b_T_work, 9, (some .int))
abbrev b_W_init : ByteArray := prog_8_method_1_code
abbrev y_W_init : sx_Y := (⟨"PlaceTimePlans$Window", "<init>", "()V"⟩, b_W_init, 1, none)
abbrev b_W_holds : ByteArray := prog_8_method_5_code
abbrev y_W_holds : sx_Y := (⟨"PlaceTimePlans$Window", "holds", "(I)Z"⟩, b_W_holds, 2, (some .boolean))
abbrev b_W_isEmpty : ByteArray := prog_8_method_6_code
abbrev y_W_isEmpty : sx_Y := (⟨"PlaceTimePlans$Window", "isEmpty", "()Z"⟩, b_W_isEmpty, 1, (some .boolean))
abbrev b_W_lowerGreatest : ByteArray := prog_8_method_4_code
abbrev y_W_lowerGreatest : sx_Y := (⟨"PlaceTimePlans$Window", "lowerGreatest", "(I)V"⟩, b_W_lowerGreatest, 2, none)
abbrev b_W_raiseLeast : ByteArray := prog_8_method_3_code
abbrev y_W_raiseLeast : sx_Y := (⟨"PlaceTimePlans$Window", "raiseLeast", "(I)V"⟩, b_W_raiseLeast, 2, none)
abbrev b_W_set : ByteArray := prog_8_method_2_code
abbrev y_W_set : sx_Y := (⟨"PlaceTimePlans$Window", "set", "(II)V"⟩, b_W_set, 3, none)
abbrev b_Z_law : ByteArray := code
abbrev y_Z_law : sx_Y := (⟨"PlaceTimePlansLaw", "law", "([I)Z"⟩, b_Z_law, 4, (some .boolean))
end
section
theorem d_D_init_0 : decode b_D_init 0 = .ok (.aload_n 0, 1) := by decide +kernel
theorem d_D_init_1 : decode b_D_init 1 = .ok (.invokespecial 3, 3) := by decide +kernel
theorem d_D_init_4 : decode b_D_init 4 = .ok (.aload_n 0, 1) := by decide +kernel
theorem d_D_init_5 : decode b_D_init 5 = .ok (.sipush 200, 3) := by decide +kernel
theorem d_D_init_8 : decode b_D_init 8 = .ok (.newarray .boolean, 2) := by decide +kernel
theorem d_D_init_10 : decode b_D_init 10 = .ok (.putfield 9, 3) := by decide +kernel
theorem d_D_init_13 : decode b_D_init 13 = .ok (.aload_n 0, 1) := by decide +kernel
theorem d_D_init_14 : decode b_D_init 14 = .ok (.sipush 200, 3) := by decide +kernel
theorem d_D_init_17 : decode b_D_init 17 = .ok (.newarray .int, 2) := by decide +kernel
theorem d_D_init_19 : decode b_D_init 19 = .ok (.putfield 15, 3) := by decide +kernel
theorem d_D_init_22 : decode b_D_init 22 = .ok (.aload_n 0, 1) := by decide +kernel
theorem d_D_init_23 : decode b_D_init 23 = .ok (.sipush 200, 3) := by decide +kernel
theorem d_D_init_26 : decode b_D_init 26 = .ok (.newarray .int, 2) := by decide +kernel
theorem d_D_init_28 : decode b_D_init 28 = .ok (.putfield 19, 3) := by decide +kernel
theorem d_D_init_31 : decode b_D_init 31 = .ok (.aload_n 0, 1) := by decide +kernel
theorem d_D_init_32 : decode b_D_init 32 = .ok (.invokevirtual 22, 3) := by decide +kernel
theorem d_D_init_35 : decode b_D_init 35 = .ok (.return_, 1) := by decide +kernel
theorem d_D_isWorking_0 : decode b_D_isWorking 0 = .ok (.iload_n 1, 1) := by decide +kernel
theorem d_D_isWorking_1 : decode b_D_isWorking 1 = .ok (.sipush 200, 3) := by decide +kernel
theorem d_D_isWorking_4 : decode b_D_isWorking 4 = .ok (.if_icmp .ge 16, 3) := by decide +kernel
theorem d_D_isWorking_7 : decode b_D_isWorking 7 = .ok (.iload_n 1, 1) := by decide +kernel
theorem d_D_isWorking_8 : decode b_D_isWorking 8 = .ok (.ifCond .lt 16, 3) := by decide +kernel
theorem d_D_isWorking_11 : decode b_D_isWorking 11 = .ok (.aload_n 0, 1) := by decide +kernel
theorem d_D_isWorking_12 : decode b_D_isWorking 12 = .ok (.getfield 9, 3) := by decide +kernel
theorem d_D_isWorking_15 : decode b_D_isWorking 15 = .ok (.iload_n 1, 1) := by decide +kernel
theorem d_D_isWorking_16 : decode b_D_isWorking 16 = .ok (.baload, 1) := by decide +kernel
theorem d_D_isWorking_17 : decode b_D_isWorking 17 = .ok (.ifCond .ne 7, 3) := by decide +kernel
theorem d_D_isWorking_20 : decode b_D_isWorking 20 = .ok (.iconst 1, 1) := by decide +kernel
theorem d_D_isWorking_21 : decode b_D_isWorking 21 = .ok (.goto 4, 3) := by decide +kernel
theorem d_D_isWorking_24 : decode b_D_isWorking 24 = .ok (.iconst 0, 1) := by decide +kernel
theorem d_D_isWorking_25 : decode b_D_isWorking 25 = .ok (.ireturn, 1) := by decide +kernel
theorem d_D_giveRest_0 : decode b_D_giveRest 0 = .ok (.iload_n 1, 1) := by decide +kernel
theorem d_D_giveRest_1 : decode b_D_giveRest 1 = .ok (.iconst 0, 1) := by decide +kernel
theorem d_D_giveRest_2 : decode b_D_giveRest 2 = .ok (.sipush 199, 3) := by decide +kernel
theorem d_D_giveRest_5 : decode b_D_giveRest 5 = .ok (.invokestatic 25, 3) := by decide +kernel
theorem d_D_giveRest_8 : decode b_D_giveRest 8 = .ok (.ifCond .eq 33, 3) := by decide +kernel
theorem d_D_giveRest_11 : decode b_D_giveRest 11 = .ok (.aload_n 0, 1) := by decide +kernel
theorem d_D_giveRest_12 : decode b_D_giveRest 12 = .ok (.getfield 9, 3) := by decide +kernel
theorem d_D_giveRest_15 : decode b_D_giveRest 15 = .ok (.iload_n 1, 1) := by decide +kernel
theorem d_D_giveRest_16 : decode b_D_giveRest 16 = .ok (.baload, 1) := by decide +kernel
theorem d_D_giveRest_17 : decode b_D_giveRest 17 = .ok (.ifCond .ne 24, 3) := by decide +kernel
theorem d_D_giveRest_20 : decode b_D_giveRest 20 = .ok (.aload_n 0, 1) := by decide +kernel
theorem d_D_giveRest_21 : decode b_D_giveRest 21 = .ok (.getfield 9, 3) := by decide +kernel
theorem d_D_giveRest_24 : decode b_D_giveRest 24 = .ok (.iload_n 1, 1) := by decide +kernel
theorem d_D_giveRest_25 : decode b_D_giveRest 25 = .ok (.iconst 1, 1) := by decide +kernel
theorem d_D_giveRest_26 : decode b_D_giveRest 26 = .ok (.bastore, 1) := by decide +kernel
theorem d_D_giveRest_27 : decode b_D_giveRest 27 = .ok (.aload_n 0, 1) := by decide +kernel
theorem d_D_giveRest_28 : decode b_D_giveRest 28 = .ok (.dup, 1) := by decide +kernel
theorem d_D_giveRest_29 : decode b_D_giveRest 29 = .ok (.getfield 29, 3) := by decide +kernel
theorem d_D_giveRest_32 : decode b_D_giveRest 32 = .ok (.iconst 1, 1) := by decide +kernel
theorem d_D_giveRest_33 : decode b_D_giveRest 33 = .ok (.iadd, 1) := by decide +kernel
theorem d_D_giveRest_34 : decode b_D_giveRest 34 = .ok (.putfield 29, 3) := by decide +kernel
theorem d_D_giveRest_37 : decode b_D_giveRest 37 = .ok (.aload_n 0, 1) := by decide +kernel
theorem d_D_giveRest_38 : decode b_D_giveRest 38 = .ok (.invokevirtual 22, 3) := by decide +kernel
theorem d_D_giveRest_41 : decode b_D_giveRest 41 = .ok (.return_, 1) := by decide +kernel
theorem d_D_before_0 : decode b_D_before 0 = .ok (.iload_n 1, 1) := by decide +kernel
theorem d_D_before_1 : decode b_D_before 1 = .ok (.ifCond .ge 5, 3) := by decide +kernel
theorem d_D_before_4 : decode b_D_before 4 = .ok (.iconst 0, 1) := by decide +kernel
theorem d_D_before_5 : decode b_D_before 5 = .ok (.ireturn, 1) := by decide +kernel
theorem d_D_before_6 : decode b_D_before 6 = .ok (.iload_n 1, 1) := by decide +kernel
theorem d_D_before_7 : decode b_D_before 7 = .ok (.sipush 200, 3) := by decide +kernel
theorem d_D_before_10 : decode b_D_before 10 = .ok (.if_icmp .ge 12, 3) := by decide +kernel
theorem d_D_before_13 : decode b_D_before 13 = .ok (.aload_n 0, 1) := by decide +kernel
theorem d_D_before_14 : decode b_D_before 14 = .ok (.getfield 15, 3) := by decide +kernel
theorem d_D_before_17 : decode b_D_before 17 = .ok (.iload_n 1, 1) := by decide +kernel
theorem d_D_before_18 : decode b_D_before 18 = .ok (.iaload, 1) := by decide +kernel
theorem d_D_before_19 : decode b_D_before 19 = .ok (.goto 9, 3) := by decide +kernel
theorem d_D_before_22 : decode b_D_before 22 = .ok (.iload_n 1, 1) := by decide +kernel
theorem d_D_before_23 : decode b_D_before 23 = .ok (.aload_n 0, 1) := by decide +kernel
theorem d_D_before_24 : decode b_D_before 24 = .ok (.getfield 29, 3) := by decide +kernel
theorem d_D_before_27 : decode b_D_before 27 = .ok (.isub, 1) := by decide +kernel
theorem d_D_before_28 : decode b_D_before 28 = .ok (.ireturn, 1) := by decide +kernel
theorem d_D_dayOf_0 : decode b_D_dayOf 0 = .ok (.iload_n 1, 1) := by decide +kernel
theorem d_D_dayOf_1 : decode b_D_dayOf 1 = .ok (.ifCond .ge 5, 3) := by decide +kernel
theorem d_D_dayOf_4 : decode b_D_dayOf 4 = .ok (.iconst 0, 1) := by decide +kernel
theorem d_D_dayOf_5 : decode b_D_dayOf 5 = .ok (.ireturn, 1) := by decide +kernel
theorem d_D_dayOf_6 : decode b_D_dayOf 6 = .ok (.iload_n 1, 1) := by decide +kernel
theorem d_D_dayOf_7 : decode b_D_dayOf 7 = .ok (.sipush 200, 3) := by decide +kernel
theorem d_D_dayOf_10 : decode b_D_dayOf 10 = .ok (.aload_n 0, 1) := by decide +kernel
theorem d_D_dayOf_11 : decode b_D_dayOf 11 = .ok (.getfield 29, 3) := by decide +kernel
theorem d_D_dayOf_14 : decode b_D_dayOf 14 = .ok (.isub, 1) := by decide +kernel
theorem d_D_dayOf_15 : decode b_D_dayOf 15 = .ok (.if_icmp .ge 12, 3) := by decide +kernel
theorem d_D_dayOf_18 : decode b_D_dayOf 18 = .ok (.aload_n 0, 1) := by decide +kernel
theorem d_D_dayOf_19 : decode b_D_dayOf 19 = .ok (.getfield 19, 3) := by decide +kernel
theorem d_D_dayOf_22 : decode b_D_dayOf 22 = .ok (.iload_n 1, 1) := by decide +kernel
theorem d_D_dayOf_23 : decode b_D_dayOf 23 = .ok (.iaload, 1) := by decide +kernel
theorem d_D_dayOf_24 : decode b_D_dayOf 24 = .ok (.goto 9, 3) := by decide +kernel
theorem d_D_dayOf_27 : decode b_D_dayOf 27 = .ok (.iload_n 1, 1) := by decide +kernel
theorem d_D_dayOf_28 : decode b_D_dayOf 28 = .ok (.aload_n 0, 1) := by decide +kernel
theorem d_D_dayOf_29 : decode b_D_dayOf 29 = .ok (.getfield 29, 3) := by decide +kernel
theorem d_D_dayOf_32 : decode b_D_dayOf 32 = .ok (.iadd, 1) := by decide +kernel
theorem d_D_dayOf_33 : decode b_D_dayOf 33 = .ok (.ireturn, 1) := by decide +kernel
theorem d_D_countWorkingDays_0 : decode b_D_countWorkingDays 0 = .ok (.iconst 0, 1) := by decide +kernel
theorem d_D_countWorkingDays_1 : decode b_D_countWorkingDays 1 = .ok (.istore_n 1, 1) := by decide +kernel
theorem d_D_countWorkingDays_2 : decode b_D_countWorkingDays 2 = .ok (.iconst 0, 1) := by decide +kernel
theorem d_D_countWorkingDays_3 : decode b_D_countWorkingDays 3 = .ok (.istore_n 2, 1) := by decide +kernel
theorem d_D_countWorkingDays_4 : decode b_D_countWorkingDays 4 = .ok (.iload_n 2, 1) := by decide +kernel
theorem d_D_countWorkingDays_5 : decode b_D_countWorkingDays 5 = .ok (.sipush 200, 3) := by decide +kernel
theorem d_D_countWorkingDays_8 : decode b_D_countWorkingDays 8 = .ok (.if_icmp .ge 35, 3) := by decide +kernel
theorem d_D_countWorkingDays_11 : decode b_D_countWorkingDays 11 = .ok (.aload_n 0, 1) := by decide +kernel
theorem d_D_countWorkingDays_12 : decode b_D_countWorkingDays 12 = .ok (.getfield 15, 3) := by decide +kernel
theorem d_D_countWorkingDays_15 : decode b_D_countWorkingDays 15 = .ok (.iload_n 2, 1) := by decide +kernel
theorem d_D_countWorkingDays_16 : decode b_D_countWorkingDays 16 = .ok (.iload_n 1, 1) := by decide +kernel
theorem d_D_countWorkingDays_17 : decode b_D_countWorkingDays 17 = .ok (.iastore, 1) := by decide +kernel
theorem d_D_countWorkingDays_18 : decode b_D_countWorkingDays 18 = .ok (.aload_n 0, 1) := by decide +kernel
theorem d_D_countWorkingDays_19 : decode b_D_countWorkingDays 19 = .ok (.getfield 9, 3) := by decide +kernel
theorem d_D_countWorkingDays_22 : decode b_D_countWorkingDays 22 = .ok (.iload_n 2, 1) := by decide +kernel
theorem d_D_countWorkingDays_23 : decode b_D_countWorkingDays 23 = .ok (.baload, 1) := by decide +kernel
theorem d_D_countWorkingDays_24 : decode b_D_countWorkingDays 24 = .ok (.ifCond .ne 13, 3) := by decide +kernel
theorem d_D_countWorkingDays_27 : decode b_D_countWorkingDays 27 = .ok (.aload_n 0, 1) := by decide +kernel
theorem d_D_countWorkingDays_28 : decode b_D_countWorkingDays 28 = .ok (.getfield 19, 3) := by decide +kernel
theorem d_D_countWorkingDays_31 : decode b_D_countWorkingDays 31 = .ok (.iload_n 1, 1) := by decide +kernel
theorem d_D_countWorkingDays_32 : decode b_D_countWorkingDays 32 = .ok (.iload_n 2, 1) := by decide +kernel
theorem d_D_countWorkingDays_33 : decode b_D_countWorkingDays 33 = .ok (.iastore, 1) := by decide +kernel
theorem d_D_countWorkingDays_34 : decode b_D_countWorkingDays 34 = .ok (.iinc 1 1, 3) := by decide +kernel
theorem d_D_countWorkingDays_37 : decode b_D_countWorkingDays 37 = .ok (.iinc 2 1, 3) := by decide +kernel
theorem d_D_countWorkingDays_40 : decode b_D_countWorkingDays 40 = .ok (.goto (-36), 3) := by decide +kernel
theorem d_D_countWorkingDays_43 : decode b_D_countWorkingDays 43 = .ok (.return_, 1) := by decide +kernel
theorem d_L_init_0 : decode b_L_init 0 = .ok (.aload_n 0, 1) := by decide +kernel
theorem d_L_init_1 : decode b_L_init 1 = .ok (.invokespecial 3, 3) := by decide +kernel
theorem d_L_init_4 : decode b_L_init 4 = .ok (.aload_n 0, 1) := by decide +kernel
theorem d_L_init_5 : decode b_L_init 5 = .ok (.new 9, 3) := by decide +kernel
theorem d_L_init_8 : decode b_L_init 8 = .ok (.dup, 1) := by decide +kernel
theorem d_L_init_9 : decode b_L_init 9 = .ok (.invokespecial 11, 3) := by decide +kernel
theorem d_L_init_12 : decode b_L_init 12 = .ok (.putfield 12, 3) := by decide +kernel
theorem d_L_init_15 : decode b_L_init 15 = .ok (.aload_n 0, 1) := by decide +kernel
theorem d_L_init_16 : decode b_L_init 16 = .ok (.iconst 4, 1) := by decide +kernel
theorem d_L_init_17 : decode b_L_init 17 = .ok (.newarray .int, 2) := by decide +kernel
theorem d_L_init_19 : decode b_L_init 19 = .ok (.putfield 18, 3) := by decide +kernel
theorem d_L_init_22 : decode b_L_init 22 = .ok (.aload_n 0, 1) := by decide +kernel
theorem d_L_init_23 : decode b_L_init 23 = .ok (.bipush 6, 2) := by decide +kernel
theorem d_L_init_25 : decode b_L_init 25 = .ok (.anewarray 22, 3) := by decide +kernel
theorem d_L_init_28 : decode b_L_init 28 = .ok (.putfield 24, 3) := by decide +kernel
theorem d_L_init_31 : decode b_L_init 31 = .ok (.aload_n 0, 1) := by decide +kernel
theorem d_L_init_32 : decode b_L_init 32 = .ok (.bipush 36, 2) := by decide +kernel
theorem d_L_init_34 : decode b_L_init 34 = .ok (.newarray .int, 2) := by decide +kernel
theorem d_L_init_36 : decode b_L_init 36 = .ok (.putfield 28, 3) := by decide +kernel
theorem d_L_init_39 : decode b_L_init 39 = .ok (.aload_n 0, 1) := by decide +kernel
theorem d_L_init_40 : decode b_L_init 40 = .ok (.iconst 4, 1) := by decide +kernel
theorem d_L_init_41 : decode b_L_init 41 = .ok (.newarray .int, 2) := by decide +kernel
theorem d_L_init_43 : decode b_L_init 43 = .ok (.putfield 31, 3) := by decide +kernel
theorem d_L_init_46 : decode b_L_init 46 = .ok (.aload_n 0, 1) := by decide +kernel
theorem d_L_init_47 : decode b_L_init 47 = .ok (.bipush 8, 2) := by decide +kernel
theorem d_L_init_49 : decode b_L_init 49 = .ok (.newarray .int, 2) := by decide +kernel
theorem d_L_init_51 : decode b_L_init 51 = .ok (.putfield 34, 3) := by decide +kernel
theorem d_L_init_54 : decode b_L_init 54 = .ok (.aload_n 0, 1) := by decide +kernel
theorem d_L_init_55 : decode b_L_init 55 = .ok (.bipush 8, 2) := by decide +kernel
theorem d_L_init_57 : decode b_L_init 57 = .ok (.newarray .int, 2) := by decide +kernel
theorem d_L_init_59 : decode b_L_init 59 = .ok (.putfield 37, 3) := by decide +kernel
theorem d_L_init_62 : decode b_L_init 62 = .ok (.aload_n 0, 1) := by decide +kernel
theorem d_L_init_63 : decode b_L_init 63 = .ok (.bipush 8, 2) := by decide +kernel
theorem d_L_init_65 : decode b_L_init 65 = .ok (.newarray .int, 2) := by decide +kernel
theorem d_L_init_67 : decode b_L_init 67 = .ok (.putfield 40, 3) := by decide +kernel
theorem d_L_init_70 : decode b_L_init 70 = .ok (.iconst 0, 1) := by decide +kernel
theorem d_L_init_71 : decode b_L_init 71 = .ok (.istore_n 1, 1) := by decide +kernel
theorem d_L_init_72 : decode b_L_init 72 = .ok (.iload_n 1, 1) := by decide +kernel
theorem d_L_init_73 : decode b_L_init 73 = .ok (.bipush 6, 2) := by decide +kernel
theorem d_L_init_75 : decode b_L_init 75 = .ok (.if_icmp .ge 22, 3) := by decide +kernel
theorem d_L_init_78 : decode b_L_init 78 = .ok (.aload_n 0, 1) := by decide +kernel
theorem d_L_init_79 : decode b_L_init 79 = .ok (.getfield 24, 3) := by decide +kernel
theorem d_L_init_82 : decode b_L_init 82 = .ok (.iload_n 1, 1) := by decide +kernel
theorem d_L_init_83 : decode b_L_init 83 = .ok (.new 22, 3) := by decide +kernel
theorem d_L_init_86 : decode b_L_init 86 = .ok (.dup, 1) := by decide +kernel
theorem d_L_init_87 : decode b_L_init 87 = .ok (.invokespecial 43, 3) := by decide +kernel
theorem d_L_init_90 : decode b_L_init 90 = .ok (.aastore, 1) := by decide +kernel
theorem d_L_init_91 : decode b_L_init 91 = .ok (.iinc 1 1, 3) := by decide +kernel
theorem d_L_init_94 : decode b_L_init 94 = .ok (.goto (-22), 3) := by decide +kernel
theorem d_L_init_97 : decode b_L_init 97 = .ok (.iconst 0, 1) := by decide +kernel
theorem d_L_init_98 : decode b_L_init 98 = .ok (.istore_n 1, 1) := by decide +kernel
theorem d_L_init_99 : decode b_L_init 99 = .ok (.iload_n 1, 1) := by decide +kernel
theorem d_L_init_100 : decode b_L_init 100 = .ok (.aload_n 0, 1) := by decide +kernel
theorem d_L_init_101 : decode b_L_init 101 = .ok (.getfield 28, 3) := by decide +kernel
theorem d_L_init_104 : decode b_L_init 104 = .ok (.arraylength, 1) := by decide +kernel
theorem d_L_init_105 : decode b_L_init 105 = .ok (.if_icmp .ge 16, 3) := by decide +kernel
theorem d_L_init_108 : decode b_L_init 108 = .ok (.aload_n 0, 1) := by decide +kernel
theorem d_L_init_109 : decode b_L_init 109 = .ok (.getfield 28, 3) := by decide +kernel
theorem d_L_init_112 : decode b_L_init 112 = .ok (.iload_n 1, 1) := by decide +kernel
theorem d_L_init_113 : decode b_L_init 113 = .ok (.iconst (-1), 1) := by decide +kernel
theorem d_L_init_114 : decode b_L_init 114 = .ok (.iastore, 1) := by decide +kernel
theorem d_L_init_115 : decode b_L_init 115 = .ok (.iinc 1 1, 3) := by decide +kernel
theorem d_L_init_118 : decode b_L_init 118 = .ok (.goto (-19), 3) := by decide +kernel
theorem d_L_init_121 : decode b_L_init 121 = .ok (.iconst 0, 1) := by decide +kernel
theorem d_L_init_122 : decode b_L_init 122 = .ok (.istore_n 1, 1) := by decide +kernel
theorem d_L_init_123 : decode b_L_init 123 = .ok (.iload_n 1, 1) := by decide +kernel
theorem d_L_init_124 : decode b_L_init 124 = .ok (.iconst 4, 1) := by decide +kernel
theorem d_L_init_125 : decode b_L_init 125 = .ok (.if_icmp .ge 16, 3) := by decide +kernel
theorem d_L_init_128 : decode b_L_init 128 = .ok (.aload_n 0, 1) := by decide +kernel
theorem d_L_init_129 : decode b_L_init 129 = .ok (.getfield 31, 3) := by decide +kernel
theorem d_L_init_132 : decode b_L_init 132 = .ok (.iload_n 1, 1) := by decide +kernel
theorem d_L_init_133 : decode b_L_init 133 = .ok (.iconst 4, 1) := by decide +kernel
theorem d_L_init_134 : decode b_L_init 134 = .ok (.iastore, 1) := by decide +kernel
theorem d_L_init_135 : decode b_L_init 135 = .ok (.iinc 1 1, 3) := by decide +kernel
theorem d_L_init_138 : decode b_L_init 138 = .ok (.goto (-15), 3) := by decide +kernel
theorem d_L_init_141 : decode b_L_init 141 = .ok (.return_, 1) := by decide +kernel
theorem d_L_addCrew_0 : decode b_L_addCrew 0 = .ok (.aload_n 0, 1) := by decide +kernel
theorem d_L_addCrew_1 : decode b_L_addCrew 1 = .ok (.getfield 44, 3) := by decide +kernel
theorem d_L_addCrew_4 : decode b_L_addCrew 4 = .ok (.iconst 4, 1) := by decide +kernel
theorem d_L_addCrew_5 : decode b_L_addCrew 5 = .ok (.if_icmp .lt 5, 3) := by decide +kernel
theorem d_L_addCrew_8 : decode b_L_addCrew 8 = .ok (.iconst (-1), 1) := by decide +kernel
theorem d_L_addCrew_9 : decode b_L_addCrew 9 = .ok (.ireturn, 1) := by decide +kernel
theorem d_L_addCrew_10 : decode b_L_addCrew 10 = .ok (.aload_n 0, 1) := by decide +kernel
theorem d_L_addCrew_11 : decode b_L_addCrew 11 = .ok (.getfield 18, 3) := by decide +kernel
theorem d_L_addCrew_14 : decode b_L_addCrew 14 = .ok (.aload_n 0, 1) := by decide +kernel
theorem d_L_addCrew_15 : decode b_L_addCrew 15 = .ok (.getfield 44, 3) := by decide +kernel
theorem d_L_addCrew_18 : decode b_L_addCrew 18 = .ok (.iload_n 1, 1) := by decide +kernel
theorem d_L_addCrew_19 : decode b_L_addCrew 19 = .ok (.iastore, 1) := by decide +kernel
theorem d_L_addCrew_20 : decode b_L_addCrew 20 = .ok (.aload_n 0, 1) := by decide +kernel
theorem d_L_addCrew_21 : decode b_L_addCrew 21 = .ok (.dup, 1) := by decide +kernel
theorem d_L_addCrew_22 : decode b_L_addCrew 22 = .ok (.getfield 44, 3) := by decide +kernel
theorem d_L_addCrew_25 : decode b_L_addCrew 25 = .ok (.iconst 1, 1) := by decide +kernel
theorem d_L_addCrew_26 : decode b_L_addCrew 26 = .ok (.iadd, 1) := by decide +kernel
theorem d_L_addCrew_27 : decode b_L_addCrew 27 = .ok (.putfield 44, 3) := by decide +kernel
theorem d_L_addCrew_30 : decode b_L_addCrew 30 = .ok (.aload_n 0, 1) := by decide +kernel
theorem d_L_addCrew_31 : decode b_L_addCrew 31 = .ok (.getfield 44, 3) := by decide +kernel
theorem d_L_addCrew_34 : decode b_L_addCrew 34 = .ok (.iconst 1, 1) := by decide +kernel
theorem d_L_addCrew_35 : decode b_L_addCrew 35 = .ok (.isub, 1) := by decide +kernel
theorem d_L_addCrew_36 : decode b_L_addCrew 36 = .ok (.ireturn, 1) := by decide +kernel
theorem d_L_addWork_0 : decode b_L_addWork 0 = .ok (.aload_n 0, 1) := by decide +kernel
theorem d_L_addWork_1 : decode b_L_addWork 1 = .ok (.getfield 48, 3) := by decide +kernel
theorem d_L_addWork_4 : decode b_L_addWork 4 = .ok (.bipush 6, 2) := by decide +kernel
theorem d_L_addWork_6 : decode b_L_addWork 6 = .ok (.if_icmp .ge 12, 3) := by decide +kernel
theorem d_L_addWork_9 : decode b_L_addWork 9 = .ok (.iload_n 1, 1) := by decide +kernel
theorem d_L_addWork_10 : decode b_L_addWork 10 = .ok (.iconst 0, 1) := by decide +kernel
theorem d_L_addWork_11 : decode b_L_addWork 11 = .ok (.iconst 3, 1) := by decide +kernel
theorem d_L_addWork_12 : decode b_L_addWork 12 = .ok (.invokestatic 51, 3) := by decide +kernel
theorem d_L_addWork_15 : decode b_L_addWork 15 = .ok (.ifCond .ne 5, 3) := by decide +kernel
theorem d_L_addWork_18 : decode b_L_addWork 18 = .ok (.iconst (-1), 1) := by decide +kernel
theorem d_L_addWork_19 : decode b_L_addWork 19 = .ok (.ireturn, 1) := by decide +kernel
theorem d_L_addWork_20 : decode b_L_addWork 20 = .ok (.aload_n 0, 1) := by decide +kernel
theorem d_L_addWork_21 : decode b_L_addWork 21 = .ok (.getfield 24, 3) := by decide +kernel
theorem d_L_addWork_24 : decode b_L_addWork 24 = .ok (.aload_n 0, 1) := by decide +kernel
theorem d_L_addWork_25 : decode b_L_addWork 25 = .ok (.getfield 48, 3) := by decide +kernel
theorem d_L_addWork_28 : decode b_L_addWork 28 = .ok (.aaload, 1) := by decide +kernel
theorem d_L_addWork_29 : decode b_L_addWork 29 = .ok (.astore 6, 2) := by decide +kernel
theorem d_L_addWork_31 : decode b_L_addWork 31 = .ok (.aload 6, 2) := by decide +kernel
theorem d_L_addWork_33 : decode b_L_addWork 33 = .ok (.iload_n 1, 1) := by decide +kernel
theorem d_L_addWork_34 : decode b_L_addWork 34 = .ok (.putfield 55, 3) := by decide +kernel
theorem d_L_addWork_37 : decode b_L_addWork 37 = .ok (.aload 6, 2) := by decide +kernel
theorem d_L_addWork_39 : decode b_L_addWork 39 = .ok (.aload_n 0, 1) := by decide +kernel
theorem d_L_addWork_40 : decode b_L_addWork 40 = .ok (.getfield 18, 3) := by decide +kernel
theorem d_L_addWork_43 : decode b_L_addWork 43 = .ok (.iload_n 1, 1) := by decide +kernel
theorem d_L_addWork_44 : decode b_L_addWork 44 = .ok (.iaload, 1) := by decide +kernel
theorem d_L_addWork_45 : decode b_L_addWork 45 = .ok (.putfield 58, 3) := by decide +kernel
theorem d_L_addWork_48 : decode b_L_addWork 48 = .ok (.aload 6, 2) := by decide +kernel
theorem d_L_addWork_50 : decode b_L_addWork 50 = .ok (.iload_n 2, 1) := by decide +kernel
theorem d_L_addWork_51 : decode b_L_addWork 51 = .ok (.putfield 61, 3) := by decide +kernel
theorem d_L_addWork_54 : decode b_L_addWork 54 = .ok (.aload 6, 2) := by decide +kernel
theorem d_L_addWork_56 : decode b_L_addWork 56 = .ok (.iload_n 3, 1) := by decide +kernel
theorem d_L_addWork_57 : decode b_L_addWork 57 = .ok (.putfield 64, 3) := by decide +kernel
theorem d_L_addWork_60 : decode b_L_addWork 60 = .ok (.aload 6, 2) := by decide +kernel
theorem d_L_addWork_62 : decode b_L_addWork 62 = .ok (.iload 5, 2) := by decide +kernel
theorem d_L_addWork_64 : decode b_L_addWork 64 = .ok (.putfield 67, 3) := by decide +kernel
theorem d_L_addWork_67 : decode b_L_addWork 67 = .ok (.aload 6, 2) := by decide +kernel
theorem d_L_addWork_69 : decode b_L_addWork 69 = .ok (.iload 4, 2) := by decide +kernel
theorem d_L_addWork_71 : decode b_L_addWork 71 = .ok (.invokevirtual 71, 3) := by decide +kernel
theorem d_L_addWork_74 : decode b_L_addWork 74 = .ok (.aload_n 0, 1) := by decide +kernel
theorem d_L_addWork_75 : decode b_L_addWork 75 = .ok (.dup, 1) := by decide +kernel
theorem d_L_addWork_76 : decode b_L_addWork 76 = .ok (.getfield 48, 3) := by decide +kernel
theorem d_L_addWork_79 : decode b_L_addWork 79 = .ok (.iconst 1, 1) := by decide +kernel
theorem d_L_addWork_80 : decode b_L_addWork 80 = .ok (.iadd, 1) := by decide +kernel
theorem d_L_addWork_81 : decode b_L_addWork 81 = .ok (.putfield 48, 3) := by decide +kernel
theorem d_L_addWork_84 : decode b_L_addWork 84 = .ok (.aload_n 0, 1) := by decide +kernel
theorem d_L_addWork_85 : decode b_L_addWork 85 = .ok (.getfield 48, 3) := by decide +kernel
theorem d_L_addWork_88 : decode b_L_addWork 88 = .ok (.iconst 1, 1) := by decide +kernel
theorem d_L_addWork_89 : decode b_L_addWork 89 = .ok (.isub, 1) := by decide +kernel
theorem d_L_addWork_90 : decode b_L_addWork 90 = .ok (.ireturn, 1) := by decide +kernel
theorem d_L_addBar_0 : decode b_L_addBar 0 = .ok (.aload_n 0, 1) := by decide +kernel
theorem d_L_addBar_1 : decode b_L_addBar 1 = .ok (.getfield 75, 3) := by decide +kernel
theorem d_L_addBar_4 : decode b_L_addBar 4 = .ok (.bipush 8, 2) := by decide +kernel
theorem d_L_addBar_6 : decode b_L_addBar 6 = .ok (.if_icmp .ge 43, 3) := by decide +kernel
theorem d_L_addBar_9 : decode b_L_addBar 9 = .ok (.aload_n 0, 1) := by decide +kernel
theorem d_L_addBar_10 : decode b_L_addBar 10 = .ok (.getfield 34, 3) := by decide +kernel
theorem d_L_addBar_13 : decode b_L_addBar 13 = .ok (.aload_n 0, 1) := by decide +kernel
theorem d_L_addBar_14 : decode b_L_addBar 14 = .ok (.getfield 75, 3) := by decide +kernel
theorem d_L_addBar_17 : decode b_L_addBar 17 = .ok (.iload_n 1, 1) := by decide +kernel
theorem d_L_addBar_18 : decode b_L_addBar 18 = .ok (.iastore, 1) := by decide +kernel
theorem d_L_addBar_19 : decode b_L_addBar 19 = .ok (.aload_n 0, 1) := by decide +kernel
theorem d_L_addBar_20 : decode b_L_addBar 20 = .ok (.getfield 37, 3) := by decide +kernel
theorem d_L_addBar_23 : decode b_L_addBar 23 = .ok (.aload_n 0, 1) := by decide +kernel
theorem d_L_addBar_24 : decode b_L_addBar 24 = .ok (.getfield 75, 3) := by decide +kernel
theorem d_L_addBar_27 : decode b_L_addBar 27 = .ok (.iload_n 2, 1) := by decide +kernel
theorem d_L_addBar_28 : decode b_L_addBar 28 = .ok (.iastore, 1) := by decide +kernel
theorem d_L_addBar_29 : decode b_L_addBar 29 = .ok (.aload_n 0, 1) := by decide +kernel
theorem d_L_addBar_30 : decode b_L_addBar 30 = .ok (.getfield 40, 3) := by decide +kernel
theorem d_L_addBar_33 : decode b_L_addBar 33 = .ok (.aload_n 0, 1) := by decide +kernel
theorem d_L_addBar_34 : decode b_L_addBar 34 = .ok (.getfield 75, 3) := by decide +kernel
theorem d_L_addBar_37 : decode b_L_addBar 37 = .ok (.iload_n 3, 1) := by decide +kernel
theorem d_L_addBar_38 : decode b_L_addBar 38 = .ok (.iastore, 1) := by decide +kernel
theorem d_L_addBar_39 : decode b_L_addBar 39 = .ok (.aload_n 0, 1) := by decide +kernel
theorem d_L_addBar_40 : decode b_L_addBar 40 = .ok (.dup, 1) := by decide +kernel
theorem d_L_addBar_41 : decode b_L_addBar 41 = .ok (.getfield 75, 3) := by decide +kernel
theorem d_L_addBar_44 : decode b_L_addBar 44 = .ok (.iconst 1, 1) := by decide +kernel
theorem d_L_addBar_45 : decode b_L_addBar 45 = .ok (.iadd, 1) := by decide +kernel
theorem d_L_addBar_46 : decode b_L_addBar 46 = .ok (.putfield 75, 3) := by decide +kernel
theorem d_L_addBar_49 : decode b_L_addBar 49 = .ok (.return_, 1) := by decide +kernel
theorem d_L_setGap_0 : decode b_L_setGap 0 = .ok (.iload_n 1, 1) := by decide +kernel
theorem d_L_setGap_1 : decode b_L_setGap 1 = .ok (.iconst 0, 1) := by decide +kernel
theorem d_L_setGap_2 : decode b_L_setGap 2 = .ok (.iconst 5, 1) := by decide +kernel
theorem d_L_setGap_3 : decode b_L_setGap 3 = .ok (.invokestatic 51, 3) := by decide +kernel
theorem d_L_setGap_6 : decode b_L_setGap 6 = .ok (.ifCond .eq 24, 3) := by decide +kernel
theorem d_L_setGap_9 : decode b_L_setGap 9 = .ok (.iload_n 2, 1) := by decide +kernel
theorem d_L_setGap_10 : decode b_L_setGap 10 = .ok (.iconst 0, 1) := by decide +kernel
theorem d_L_setGap_11 : decode b_L_setGap 11 = .ok (.iconst 5, 1) := by decide +kernel
theorem d_L_setGap_12 : decode b_L_setGap 12 = .ok (.invokestatic 51, 3) := by decide +kernel
theorem d_L_setGap_15 : decode b_L_setGap 15 = .ok (.ifCond .eq 15, 3) := by decide +kernel
theorem d_L_setGap_18 : decode b_L_setGap 18 = .ok (.aload_n 0, 1) := by decide +kernel
theorem d_L_setGap_19 : decode b_L_setGap 19 = .ok (.getfield 28, 3) := by decide +kernel
theorem d_L_setGap_22 : decode b_L_setGap 22 = .ok (.iload_n 1, 1) := by decide +kernel
theorem d_L_setGap_23 : decode b_L_setGap 23 = .ok (.bipush 6, 2) := by decide +kernel
theorem d_L_setGap_25 : decode b_L_setGap 25 = .ok (.imul, 1) := by decide +kernel
theorem d_L_setGap_26 : decode b_L_setGap 26 = .ok (.iload_n 2, 1) := by decide +kernel
theorem d_L_setGap_27 : decode b_L_setGap 27 = .ok (.iadd, 1) := by decide +kernel
theorem d_L_setGap_28 : decode b_L_setGap 28 = .ok (.iload_n 3, 1) := by decide +kernel
theorem d_L_setGap_29 : decode b_L_setGap 29 = .ok (.iastore, 1) := by decide +kernel
theorem d_L_setGap_30 : decode b_L_setGap 30 = .ok (.return_, 1) := by decide +kernel
theorem d_L_gapBetween_0 : decode b_L_gapBetween 0 = .ok (.iload_n 1, 1) := by decide +kernel
theorem d_L_gapBetween_1 : decode b_L_gapBetween 1 = .ok (.iconst 0, 1) := by decide +kernel
theorem d_L_gapBetween_2 : decode b_L_gapBetween 2 = .ok (.iconst 5, 1) := by decide +kernel
theorem d_L_gapBetween_3 : decode b_L_gapBetween 3 = .ok (.invokestatic 51, 3) := by decide +kernel
theorem d_L_gapBetween_6 : decode b_L_gapBetween 6 = .ok (.ifCond .eq 16, 3) := by decide +kernel
theorem d_L_gapBetween_9 : decode b_L_gapBetween 9 = .ok (.iload_n 2, 1) := by decide +kernel
theorem d_L_gapBetween_10 : decode b_L_gapBetween 10 = .ok (.iconst 0, 1) := by decide +kernel
theorem d_L_gapBetween_11 : decode b_L_gapBetween 11 = .ok (.iconst 5, 1) := by decide +kernel
theorem d_L_gapBetween_12 : decode b_L_gapBetween 12 = .ok (.invokestatic 51, 3) := by decide +kernel
theorem d_L_gapBetween_15 : decode b_L_gapBetween 15 = .ok (.ifCond .eq 7, 3) := by decide +kernel
theorem d_L_gapBetween_18 : decode b_L_gapBetween 18 = .ok (.iconst 1, 1) := by decide +kernel
theorem d_L_gapBetween_19 : decode b_L_gapBetween 19 = .ok (.goto 4, 3) := by decide +kernel
theorem d_L_gapBetween_22 : decode b_L_gapBetween 22 = .ok (.iconst 0, 1) := by decide +kernel
theorem d_L_gapBetween_23 : decode b_L_gapBetween 23 = .ok (.istore_n 3, 1) := by decide +kernel
theorem d_L_gapBetween_24 : decode b_L_gapBetween 24 = .ok (.iload_n 3, 1) := by decide +kernel
theorem d_L_gapBetween_25 : decode b_L_gapBetween 25 = .ok (.ifCond .eq 17, 3) := by decide +kernel
theorem d_L_gapBetween_28 : decode b_L_gapBetween 28 = .ok (.aload_n 0, 1) := by decide +kernel
theorem d_L_gapBetween_29 : decode b_L_gapBetween 29 = .ok (.getfield 28, 3) := by decide +kernel
theorem d_L_gapBetween_32 : decode b_L_gapBetween 32 = .ok (.iload_n 1, 1) := by decide +kernel
theorem d_L_gapBetween_33 : decode b_L_gapBetween 33 = .ok (.bipush 6, 2) := by decide +kernel
theorem d_L_gapBetween_35 : decode b_L_gapBetween 35 = .ok (.imul, 1) := by decide +kernel
theorem d_L_gapBetween_36 : decode b_L_gapBetween 36 = .ok (.iload_n 2, 1) := by decide +kernel
theorem d_L_gapBetween_37 : decode b_L_gapBetween 37 = .ok (.iadd, 1) := by decide +kernel
theorem d_L_gapBetween_38 : decode b_L_gapBetween 38 = .ok (.iaload, 1) := by decide +kernel
theorem d_L_gapBetween_39 : decode b_L_gapBetween 39 = .ok (.goto 4, 3) := by decide +kernel
theorem d_L_gapBetween_42 : decode b_L_gapBetween 42 = .ok (.iconst (-1), 1) := by decide +kernel
theorem d_L_gapBetween_43 : decode b_L_gapBetween 43 = .ok (.ireturn, 1) := by decide +kernel
theorem d_L_firstShared_0 : decode b_L_firstShared 0 = .ok (.aload_n 0, 1) := by decide +kernel
theorem d_L_firstShared_1 : decode b_L_firstShared 1 = .ok (.getfield 24, 3) := by decide +kernel
theorem d_L_firstShared_4 : decode b_L_firstShared 4 = .ok (.iload_n 1, 1) := by decide +kernel
theorem d_L_firstShared_5 : decode b_L_firstShared 5 = .ok (.aaload, 1) := by decide +kernel
theorem d_L_firstShared_6 : decode b_L_firstShared 6 = .ok (.getfield 61, 3) := by decide +kernel
theorem d_L_firstShared_9 : decode b_L_firstShared 9 = .ok (.aload_n 0, 1) := by decide +kernel
theorem d_L_firstShared_10 : decode b_L_firstShared 10 = .ok (.getfield 24, 3) := by decide +kernel
theorem d_L_firstShared_13 : decode b_L_firstShared 13 = .ok (.iload_n 2, 1) := by decide +kernel
theorem d_L_firstShared_14 : decode b_L_firstShared 14 = .ok (.aaload, 1) := by decide +kernel
theorem d_L_firstShared_15 : decode b_L_firstShared 15 = .ok (.getfield 61, 3) := by decide +kernel
theorem d_L_firstShared_18 : decode b_L_firstShared 18 = .ok (.invokestatic 78, 3) := by decide +kernel
theorem d_L_firstShared_21 : decode b_L_firstShared 21 = .ok (.ireturn, 1) := by decide +kernel
theorem d_L_lastShared_0 : decode b_L_lastShared 0 = .ok (.aload_n 0, 1) := by decide +kernel
theorem d_L_lastShared_1 : decode b_L_lastShared 1 = .ok (.getfield 24, 3) := by decide +kernel
theorem d_L_lastShared_4 : decode b_L_lastShared 4 = .ok (.iload_n 1, 1) := by decide +kernel
theorem d_L_lastShared_5 : decode b_L_lastShared 5 = .ok (.aaload, 1) := by decide +kernel
theorem d_L_lastShared_6 : decode b_L_lastShared 6 = .ok (.getfield 64, 3) := by decide +kernel
theorem d_L_lastShared_9 : decode b_L_lastShared 9 = .ok (.aload_n 0, 1) := by decide +kernel
theorem d_L_lastShared_10 : decode b_L_lastShared 10 = .ok (.getfield 24, 3) := by decide +kernel
theorem d_L_lastShared_13 : decode b_L_lastShared 13 = .ok (.iload_n 2, 1) := by decide +kernel
theorem d_L_lastShared_14 : decode b_L_lastShared 14 = .ok (.aaload, 1) := by decide +kernel
theorem d_L_lastShared_15 : decode b_L_lastShared 15 = .ok (.getfield 64, 3) := by decide +kernel
theorem d_L_lastShared_18 : decode b_L_lastShared 18 = .ok (.invokestatic 84, 3) := by decide +kernel
theorem d_L_lastShared_21 : decode b_L_lastShared 21 = .ok (.ireturn, 1) := by decide +kernel
theorem d_L_endOf_0 : decode b_L_endOf 0 = .ok (.aload_n 0, 1) := by decide +kernel
theorem d_L_endOf_1 : decode b_L_endOf 1 = .ok (.getfield 12, 3) := by decide +kernel
theorem d_L_endOf_4 : decode b_L_endOf 4 = .ok (.aload_n 0, 1) := by decide +kernel
theorem d_L_endOf_5 : decode b_L_endOf 5 = .ok (.getfield 12, 3) := by decide +kernel
theorem d_L_endOf_8 : decode b_L_endOf 8 = .ok (.iload_n 2, 1) := by decide +kernel
theorem d_L_endOf_9 : decode b_L_endOf 9 = .ok (.invokevirtual 87, 3) := by decide +kernel
theorem d_L_endOf_12 : decode b_L_endOf 12 = .ok (.aload_n 0, 1) := by decide +kernel
theorem d_L_endOf_13 : decode b_L_endOf 13 = .ok (.getfield 24, 3) := by decide +kernel
theorem d_L_endOf_16 : decode b_L_endOf 16 = .ok (.iload_n 1, 1) := by decide +kernel
theorem d_L_endOf_17 : decode b_L_endOf 17 = .ok (.aaload, 1) := by decide +kernel
theorem d_L_endOf_18 : decode b_L_endOf 18 = .ok (.getfield 91, 3) := by decide +kernel
theorem d_L_endOf_21 : decode b_L_endOf 21 = .ok (.iadd, 1) := by decide +kernel
theorem d_L_endOf_22 : decode b_L_endOf 22 = .ok (.iconst 1, 1) := by decide +kernel
theorem d_L_endOf_23 : decode b_L_endOf 23 = .ok (.isub, 1) := by decide +kernel
theorem d_L_endOf_24 : decode b_L_endOf 24 = .ok (.invokevirtual 94, 3) := by decide +kernel
theorem d_L_endOf_27 : decode b_L_endOf 27 = .ok (.iconst 1, 1) := by decide +kernel
theorem d_L_endOf_28 : decode b_L_endOf 28 = .ok (.iadd, 1) := by decide +kernel
theorem d_L_endOf_29 : decode b_L_endOf 29 = .ok (.ireturn, 1) := by decide +kernel
theorem d_L_passTime_0 : decode b_L_passTime 0 = .ok (.aload_n 0, 1) := by decide +kernel
theorem d_L_passTime_1 : decode b_L_passTime 1 = .ok (.getfield 24, 3) := by decide +kernel
theorem d_L_passTime_4 : decode b_L_passTime 4 = .ok (.iload_n 1, 1) := by decide +kernel
theorem d_L_passTime_5 : decode b_L_passTime 5 = .ok (.aaload, 1) := by decide +kernel
theorem d_L_passTime_6 : decode b_L_passTime 6 = .ok (.astore 5, 2) := by decide +kernel
theorem d_L_passTime_8 : decode b_L_passTime 8 = .ok (.aload 5, 2) := by decide +kernel
theorem d_L_passTime_10 : decode b_L_passTime 10 = .ok (.iload_n 3, 1) := by decide +kernel
theorem d_L_passTime_11 : decode b_L_passTime 11 = .ok (.aload_n 2, 1) := by decide +kernel
theorem d_L_passTime_12 : decode b_L_passTime 12 = .ok (.getfield 97, 3) := by decide +kernel
theorem d_L_passTime_15 : decode b_L_passTime 15 = .ok (.iload_n 1, 1) := by decide +kernel
theorem d_L_passTime_16 : decode b_L_passTime 16 = .ok (.iaload, 1) := by decide +kernel
theorem d_L_passTime_17 : decode b_L_passTime 17 = .ok (.invokevirtual 102, 3) := by decide +kernel
theorem d_L_passTime_20 : decode b_L_passTime 20 = .ok (.istore 6, 2) := by decide +kernel
theorem d_L_passTime_22 : decode b_L_passTime 22 = .ok (.aload 5, 2) := by decide +kernel
theorem d_L_passTime_24 : decode b_L_passTime 24 = .ok (.iload 6, 2) := by decide +kernel
theorem d_L_passTime_26 : decode b_L_passTime 26 = .ok (.iload 4, 2) := by decide +kernel
theorem d_L_passTime_28 : decode b_L_passTime 28 = .ok (.invokevirtual 105, 3) := by decide +kernel
theorem d_L_passTime_31 : decode b_L_passTime 31 = .ok (.istore 7, 2) := by decide +kernel
theorem d_L_passTime_33 : decode b_L_passTime 33 = .ok (.aload_n 0, 1) := by decide +kernel
theorem d_L_passTime_34 : decode b_L_passTime 34 = .ok (.getfield 12, 3) := by decide +kernel
theorem d_L_passTime_37 : decode b_L_passTime 37 = .ok (.aload_n 0, 1) := by decide +kernel
theorem d_L_passTime_38 : decode b_L_passTime 38 = .ok (.getfield 12, 3) := by decide +kernel
theorem d_L_passTime_41 : decode b_L_passTime 41 = .ok (.aload_n 2, 1) := by decide +kernel
theorem d_L_passTime_42 : decode b_L_passTime 42 = .ok (.getfield 109, 3) := by decide +kernel
theorem d_L_passTime_45 : decode b_L_passTime 45 = .ok (.iload_n 1, 1) := by decide +kernel
theorem d_L_passTime_46 : decode b_L_passTime 46 = .ok (.iaload, 1) := by decide +kernel
theorem d_L_passTime_47 : decode b_L_passTime 47 = .ok (.invokevirtual 87, 3) := by decide +kernel
theorem d_L_passTime_50 : decode b_L_passTime 50 = .ok (.iload 7, 2) := by decide +kernel
theorem d_L_passTime_52 : decode b_L_passTime 52 = .ok (.iadd, 1) := by decide +kernel
theorem d_L_passTime_53 : decode b_L_passTime 53 = .ok (.invokevirtual 94, 3) := by decide +kernel
theorem d_L_passTime_56 : decode b_L_passTime 56 = .ok (.istore 8, 2) := by decide +kernel
theorem d_L_passTime_58 : decode b_L_passTime 58 = .ok (.iload 8, 2) := by decide +kernel
theorem d_L_passTime_60 : decode b_L_passTime 60 = .ok (.aload 5, 2) := by decide +kernel
theorem d_L_passTime_62 : decode b_L_passTime 62 = .ok (.getfield 112, 3) := by decide +kernel
theorem d_L_passTime_65 : decode b_L_passTime 65 = .ok (.imul, 1) := by decide +kernel
theorem d_L_passTime_66 : decode b_L_passTime 66 = .ok (.iload 6, 2) := by decide +kernel
theorem d_L_passTime_68 : decode b_L_passTime 68 = .ok (.iadd, 1) := by decide +kernel
theorem d_L_passTime_69 : decode b_L_passTime 69 = .ok (.iload 7, 2) := by decide +kernel
theorem d_L_passTime_71 : decode b_L_passTime 71 = .ok (.aload 5, 2) := by decide +kernel
theorem d_L_passTime_73 : decode b_L_passTime 73 = .ok (.getfield 112, 3) := by decide +kernel
theorem d_L_passTime_76 : decode b_L_passTime 76 = .ok (.imul, 1) := by decide +kernel
theorem d_L_passTime_77 : decode b_L_passTime 77 = .ok (.isub, 1) := by decide +kernel
theorem d_L_passTime_78 : decode b_L_passTime 78 = .ok (.ireturn, 1) := by decide +kernel
theorem d_L_placeOn_0 : decode b_L_placeOn 0 = .ok (.aload_n 0, 1) := by decide +kernel
theorem d_L_placeOn_1 : decode b_L_placeOn 1 = .ok (.getfield 24, 3) := by decide +kernel
theorem d_L_placeOn_4 : decode b_L_placeOn 4 = .ok (.iload_n 1, 1) := by decide +kernel
theorem d_L_placeOn_5 : decode b_L_placeOn 5 = .ok (.aaload, 1) := by decide +kernel
theorem d_L_placeOn_6 : decode b_L_placeOn 6 = .ok (.astore 4, 2) := by decide +kernel
theorem d_L_placeOn_8 : decode b_L_placeOn 8 = .ok (.aload_n 2, 1) := by decide +kernel
theorem d_L_placeOn_9 : decode b_L_placeOn 9 = .ok (.getfield 109, 3) := by decide +kernel
theorem d_L_placeOn_12 : decode b_L_placeOn 12 = .ok (.iload_n 1, 1) := by decide +kernel
theorem d_L_placeOn_13 : decode b_L_placeOn 13 = .ok (.iaload, 1) := by decide +kernel
theorem d_L_placeOn_14 : decode b_L_placeOn 14 = .ok (.istore 5, 2) := by decide +kernel
theorem d_L_placeOn_16 : decode b_L_placeOn 16 = .ok (.iconst 0, 1) := by decide +kernel
theorem d_L_placeOn_17 : decode b_L_placeOn 17 = .ok (.istore 6, 2) := by decide +kernel
theorem d_L_placeOn_19 : decode b_L_placeOn 19 = .ok (.iload_n 3, 1) := by decide +kernel
theorem d_L_placeOn_20 : decode b_L_placeOn 20 = .ok (.aload_n 0, 1) := by decide +kernel
theorem d_L_placeOn_21 : decode b_L_placeOn 21 = .ok (.iload_n 1, 1) := by decide +kernel
theorem d_L_placeOn_22 : decode b_L_placeOn 22 = .ok (.iload 5, 2) := by decide +kernel
theorem d_L_placeOn_24 : decode b_L_placeOn 24 = .ok (.invokevirtual 115, 3) := by decide +kernel
theorem d_L_placeOn_27 : decode b_L_placeOn 27 = .ok (.if_icmp .lt 19, 3) := by decide +kernel
theorem d_L_placeOn_30 : decode b_L_placeOn 30 = .ok (.aload 4, 2) := by decide +kernel
theorem d_L_placeOn_32 : decode b_L_placeOn 32 = .ok (.getfield 64, 3) := by decide +kernel
theorem d_L_placeOn_35 : decode b_L_placeOn 35 = .ok (.aload 4, 2) := by decide +kernel
theorem d_L_placeOn_37 : decode b_L_placeOn 37 = .ok (.getfield 61, 3) := by decide +kernel
theorem d_L_placeOn_40 : decode b_L_placeOn 40 = .ok (.isub, 1) := by decide +kernel
theorem d_L_placeOn_41 : decode b_L_placeOn 41 = .ok (.istore 6, 2) := by decide +kernel
theorem d_L_placeOn_43 : decode b_L_placeOn 43 = .ok (.goto 35, 3) := by decide +kernel
theorem d_L_placeOn_46 : decode b_L_placeOn 46 = .ok (.iload_n 3, 1) := by decide +kernel
theorem d_L_placeOn_47 : decode b_L_placeOn 47 = .ok (.iload 5, 2) := by decide +kernel
theorem d_L_placeOn_49 : decode b_L_placeOn 49 = .ok (.if_icmp .le 29, 3) := by decide +kernel
theorem d_L_placeOn_52 : decode b_L_placeOn 52 = .ok (.aload_n 0, 1) := by decide +kernel
theorem d_L_placeOn_53 : decode b_L_placeOn 53 = .ok (.getfield 12, 3) := by decide +kernel
theorem d_L_placeOn_56 : decode b_L_placeOn 56 = .ok (.iload_n 3, 1) := by decide +kernel
theorem d_L_placeOn_57 : decode b_L_placeOn 57 = .ok (.invokevirtual 87, 3) := by decide +kernel
theorem d_L_placeOn_60 : decode b_L_placeOn 60 = .ok (.aload_n 0, 1) := by decide +kernel
theorem d_L_placeOn_61 : decode b_L_placeOn 61 = .ok (.getfield 12, 3) := by decide +kernel
theorem d_L_placeOn_64 : decode b_L_placeOn 64 = .ok (.iload 5, 2) := by decide +kernel
theorem d_L_placeOn_66 : decode b_L_placeOn 66 = .ok (.invokevirtual 87, 3) := by decide +kernel
theorem d_L_placeOn_69 : decode b_L_placeOn 69 = .ok (.isub, 1) := by decide +kernel
theorem d_L_placeOn_70 : decode b_L_placeOn 70 = .ok (.aload 4, 2) := by decide +kernel
theorem d_L_placeOn_72 : decode b_L_placeOn 72 = .ok (.getfield 112, 3) := by decide +kernel
theorem d_L_placeOn_75 : decode b_L_placeOn 75 = .ok (.imul, 1) := by decide +kernel
theorem d_L_placeOn_76 : decode b_L_placeOn 76 = .ok (.istore 6, 2) := by decide +kernel
theorem d_L_placeOn_78 : decode b_L_placeOn 78 = .ok (.aload_n 2, 1) := by decide +kernel
theorem d_L_placeOn_79 : decode b_L_placeOn 79 = .ok (.getfield 97, 3) := by decide +kernel
theorem d_L_placeOn_82 : decode b_L_placeOn 82 = .ok (.iload_n 1, 1) := by decide +kernel
theorem d_L_placeOn_83 : decode b_L_placeOn 83 = .ok (.iaload, 1) := by decide +kernel
theorem d_L_placeOn_84 : decode b_L_placeOn 84 = .ok (.ifCond .ne 14, 3) := by decide +kernel
theorem d_L_placeOn_87 : decode b_L_placeOn 87 = .ok (.aload 4, 2) := by decide +kernel
theorem d_L_placeOn_89 : decode b_L_placeOn 89 = .ok (.getfield 61, 3) := by decide +kernel
theorem d_L_placeOn_92 : decode b_L_placeOn 92 = .ok (.iload 6, 2) := by decide +kernel
theorem d_L_placeOn_94 : decode b_L_placeOn 94 = .ok (.iadd, 1) := by decide +kernel
theorem d_L_placeOn_95 : decode b_L_placeOn 95 = .ok (.goto 11, 3) := by decide +kernel
theorem d_L_placeOn_98 : decode b_L_placeOn 98 = .ok (.aload 4, 2) := by decide +kernel
theorem d_L_placeOn_100 : decode b_L_placeOn 100 = .ok (.getfield 64, 3) := by decide +kernel
theorem d_L_placeOn_103 : decode b_L_placeOn 103 = .ok (.iload 6, 2) := by decide +kernel
theorem d_L_placeOn_105 : decode b_L_placeOn 105 = .ok (.isub, 1) := by decide +kernel
theorem d_L_placeOn_106 : decode b_L_placeOn 106 = .ok (.ireturn, 1) := by decide +kernel
theorem d_L_daysOfCrew_0 : decode b_L_daysOfCrew 0 = .ok (.iconst 0, 1) := by decide +kernel
theorem d_L_daysOfCrew_1 : decode b_L_daysOfCrew 1 = .ok (.istore_n 2, 1) := by decide +kernel
theorem d_L_daysOfCrew_2 : decode b_L_daysOfCrew 2 = .ok (.iconst 0, 1) := by decide +kernel
theorem d_L_daysOfCrew_3 : decode b_L_daysOfCrew 3 = .ok (.istore_n 3, 1) := by decide +kernel
theorem d_L_daysOfCrew_4 : decode b_L_daysOfCrew 4 = .ok (.iload_n 3, 1) := by decide +kernel
theorem d_L_daysOfCrew_5 : decode b_L_daysOfCrew 5 = .ok (.aload_n 0, 1) := by decide +kernel
theorem d_L_daysOfCrew_6 : decode b_L_daysOfCrew 6 = .ok (.getfield 48, 3) := by decide +kernel
theorem d_L_daysOfCrew_9 : decode b_L_daysOfCrew 9 = .ok (.if_icmp .ge 34, 3) := by decide +kernel
theorem d_L_daysOfCrew_12 : decode b_L_daysOfCrew 12 = .ok (.aload_n 0, 1) := by decide +kernel
theorem d_L_daysOfCrew_13 : decode b_L_daysOfCrew 13 = .ok (.getfield 24, 3) := by decide +kernel
theorem d_L_daysOfCrew_16 : decode b_L_daysOfCrew 16 = .ok (.iload_n 3, 1) := by decide +kernel
theorem d_L_daysOfCrew_17 : decode b_L_daysOfCrew 17 = .ok (.aaload, 1) := by decide +kernel
theorem d_L_daysOfCrew_18 : decode b_L_daysOfCrew 18 = .ok (.getfield 55, 3) := by decide +kernel
theorem d_L_daysOfCrew_21 : decode b_L_daysOfCrew 21 = .ok (.iload_n 1, 1) := by decide +kernel
theorem d_L_daysOfCrew_22 : decode b_L_daysOfCrew 22 = .ok (.if_icmp .ne 15, 3) := by decide +kernel
theorem d_L_daysOfCrew_25 : decode b_L_daysOfCrew 25 = .ok (.iload_n 2, 1) := by decide +kernel
theorem d_L_daysOfCrew_26 : decode b_L_daysOfCrew 26 = .ok (.aload_n 0, 1) := by decide +kernel
theorem d_L_daysOfCrew_27 : decode b_L_daysOfCrew 27 = .ok (.getfield 24, 3) := by decide +kernel
theorem d_L_daysOfCrew_30 : decode b_L_daysOfCrew 30 = .ok (.iload_n 3, 1) := by decide +kernel
theorem d_L_daysOfCrew_31 : decode b_L_daysOfCrew 31 = .ok (.aaload, 1) := by decide +kernel
theorem d_L_daysOfCrew_32 : decode b_L_daysOfCrew 32 = .ok (.getfield 91, 3) := by decide +kernel
theorem d_L_daysOfCrew_35 : decode b_L_daysOfCrew 35 = .ok (.iadd, 1) := by decide +kernel
theorem d_L_daysOfCrew_36 : decode b_L_daysOfCrew 36 = .ok (.istore_n 2, 1) := by decide +kernel
theorem d_L_daysOfCrew_37 : decode b_L_daysOfCrew 37 = .ok (.iinc 3 1, 3) := by decide +kernel
theorem d_L_daysOfCrew_40 : decode b_L_daysOfCrew 40 = .ok (.goto (-36), 3) := by decide +kernel
theorem d_L_daysOfCrew_43 : decode b_L_daysOfCrew 43 = .ok (.iload_n 2, 1) := by decide +kernel
theorem d_L_daysOfCrew_44 : decode b_L_daysOfCrew 44 = .ok (.ireturn, 1) := by decide +kernel
theorem d_L_frozenWorks_0 : decode b_L_frozenWorks 0 = .ok (.iconst 0, 1) := by decide +kernel
theorem d_L_frozenWorks_1 : decode b_L_frozenWorks 1 = .ok (.istore_n 1, 1) := by decide +kernel
theorem d_L_frozenWorks_2 : decode b_L_frozenWorks 2 = .ok (.iconst 0, 1) := by decide +kernel
theorem d_L_frozenWorks_3 : decode b_L_frozenWorks 3 = .ok (.istore_n 2, 1) := by decide +kernel
theorem d_L_frozenWorks_4 : decode b_L_frozenWorks 4 = .ok (.iload_n 2, 1) := by decide +kernel
theorem d_L_frozenWorks_5 : decode b_L_frozenWorks 5 = .ok (.aload_n 0, 1) := by decide +kernel
theorem d_L_frozenWorks_6 : decode b_L_frozenWorks 6 = .ok (.getfield 48, 3) := by decide +kernel
theorem d_L_frozenWorks_9 : decode b_L_frozenWorks 9 = .ok (.if_icmp .ge 24, 3) := by decide +kernel
theorem d_L_frozenWorks_12 : decode b_L_frozenWorks 12 = .ok (.aload_n 0, 1) := by decide +kernel
theorem d_L_frozenWorks_13 : decode b_L_frozenWorks 13 = .ok (.getfield 24, 3) := by decide +kernel
theorem d_L_frozenWorks_16 : decode b_L_frozenWorks 16 = .ok (.iload_n 2, 1) := by decide +kernel
theorem d_L_frozenWorks_17 : decode b_L_frozenWorks 17 = .ok (.aaload, 1) := by decide +kernel
theorem d_L_frozenWorks_18 : decode b_L_frozenWorks 18 = .ok (.getfield 118, 3) := by decide +kernel
theorem d_L_frozenWorks_21 : decode b_L_frozenWorks 21 = .ok (.ifCond .eq 6, 3) := by decide +kernel
theorem d_L_frozenWorks_24 : decode b_L_frozenWorks 24 = .ok (.iinc 1 1, 3) := by decide +kernel
theorem d_L_frozenWorks_27 : decode b_L_frozenWorks 27 = .ok (.iinc 2 1, 3) := by decide +kernel
theorem d_L_frozenWorks_30 : decode b_L_frozenWorks 30 = .ok (.goto (-26), 3) := by decide +kernel
theorem d_L_frozenWorks_33 : decode b_L_frozenWorks 33 = .ok (.iload_n 1, 1) := by decide +kernel
theorem d_L_frozenWorks_34 : decode b_L_frozenWorks 34 = .ok (.ireturn, 1) := by decide +kernel
theorem d_P_init_0 : decode b_P_init 0 = .ok (.aload_n 0, 1) := by decide +kernel
theorem d_P_init_1 : decode b_P_init 1 = .ok (.invokespecial 3, 3) := by decide +kernel
theorem d_P_init_4 : decode b_P_init 4 = .ok (.aload_n 0, 1) := by decide +kernel
theorem d_P_init_5 : decode b_P_init 5 = .ok (.bipush 6, 2) := by decide +kernel
theorem d_P_init_7 : decode b_P_init 7 = .ok (.newarray .int, 2) := by decide +kernel
theorem d_P_init_9 : decode b_P_init 9 = .ok (.putfield 9, 3) := by decide +kernel
theorem d_P_init_12 : decode b_P_init 12 = .ok (.aload_n 0, 1) := by decide +kernel
theorem d_P_init_13 : decode b_P_init 13 = .ok (.bipush 6, 2) := by decide +kernel
theorem d_P_init_15 : decode b_P_init 15 = .ok (.newarray .int, 2) := by decide +kernel
theorem d_P_init_17 : decode b_P_init 17 = .ok (.putfield 15, 3) := by decide +kernel
theorem d_P_init_20 : decode b_P_init 20 = .ok (.return_, 1) := by decide +kernel
theorem d_P_put_0 : decode b_P_put 0 = .ok (.iload_n 1, 1) := by decide +kernel
theorem d_P_put_1 : decode b_P_put 1 = .ok (.iconst 0, 1) := by decide +kernel
theorem d_P_put_2 : decode b_P_put 2 = .ok (.iconst 5, 1) := by decide +kernel
theorem d_P_put_3 : decode b_P_put 3 = .ok (.invokestatic 18, 3) := by decide +kernel
theorem d_P_put_6 : decode b_P_put 6 = .ok (.ifCond .eq 17, 3) := by decide +kernel
theorem d_P_put_9 : decode b_P_put 9 = .ok (.aload_n 0, 1) := by decide +kernel
theorem d_P_put_10 : decode b_P_put 10 = .ok (.getfield 9, 3) := by decide +kernel
theorem d_P_put_13 : decode b_P_put 13 = .ok (.iload_n 1, 1) := by decide +kernel
theorem d_P_put_14 : decode b_P_put 14 = .ok (.iload_n 2, 1) := by decide +kernel
theorem d_P_put_15 : decode b_P_put 15 = .ok (.iastore, 1) := by decide +kernel
theorem d_P_put_16 : decode b_P_put 16 = .ok (.aload_n 0, 1) := by decide +kernel
theorem d_P_put_17 : decode b_P_put 17 = .ok (.getfield 15, 3) := by decide +kernel
theorem d_P_put_20 : decode b_P_put 20 = .ok (.iload_n 1, 1) := by decide +kernel
theorem d_P_put_21 : decode b_P_put 21 = .ok (.iload_n 3, 1) := by decide +kernel
theorem d_P_put_22 : decode b_P_put 22 = .ok (.iastore, 1) := by decide +kernel
theorem d_P_put_23 : decode b_P_put 23 = .ok (.return_, 1) := by decide +kernel
theorem d_P_isElsewhere_0 : decode b_P_isElsewhere 0 = .ok (.iload_n 1, 1) := by decide +kernel
theorem d_P_isElsewhere_1 : decode b_P_isElsewhere 1 = .ok (.iconst 0, 1) := by decide +kernel
theorem d_P_isElsewhere_2 : decode b_P_isElsewhere 2 = .ok (.iconst 5, 1) := by decide +kernel
theorem d_P_isElsewhere_3 : decode b_P_isElsewhere 3 = .ok (.invokestatic 18, 3) := by decide +kernel
theorem d_P_isElsewhere_6 : decode b_P_isElsewhere 6 = .ok (.ifCond .eq 27, 3) := by decide +kernel
theorem d_P_isElsewhere_9 : decode b_P_isElsewhere 9 = .ok (.aload_n 0, 1) := by decide +kernel
theorem d_P_isElsewhere_10 : decode b_P_isElsewhere 10 = .ok (.getfield 9, 3) := by decide +kernel
theorem d_P_isElsewhere_13 : decode b_P_isElsewhere 13 = .ok (.iload_n 1, 1) := by decide +kernel
theorem d_P_isElsewhere_14 : decode b_P_isElsewhere 14 = .ok (.iaload, 1) := by decide +kernel
theorem d_P_isElsewhere_15 : decode b_P_isElsewhere 15 = .ok (.iload_n 2, 1) := by decide +kernel
theorem d_P_isElsewhere_16 : decode b_P_isElsewhere 16 = .ok (.if_icmp .ne 13, 3) := by decide +kernel
theorem d_P_isElsewhere_19 : decode b_P_isElsewhere 19 = .ok (.aload_n 0, 1) := by decide +kernel
theorem d_P_isElsewhere_20 : decode b_P_isElsewhere 20 = .ok (.getfield 15, 3) := by decide +kernel
theorem d_P_isElsewhere_23 : decode b_P_isElsewhere 23 = .ok (.iload_n 1, 1) := by decide +kernel
theorem d_P_isElsewhere_24 : decode b_P_isElsewhere 24 = .ok (.iaload, 1) := by decide +kernel
theorem d_P_isElsewhere_25 : decode b_P_isElsewhere 25 = .ok (.iload_n 3, 1) := by decide +kernel
theorem d_P_isElsewhere_26 : decode b_P_isElsewhere 26 = .ok (.if_icmp .eq 7, 3) := by decide +kernel
theorem d_P_isElsewhere_29 : decode b_P_isElsewhere 29 = .ok (.iconst 1, 1) := by decide +kernel
theorem d_P_isElsewhere_30 : decode b_P_isElsewhere 30 = .ok (.goto 4, 3) := by decide +kernel
theorem d_P_isElsewhere_33 : decode b_P_isElsewhere 33 = .ok (.iconst 0, 1) := by decide +kernel
theorem d_P_isElsewhere_34 : decode b_P_isElsewhere 34 = .ok (.ireturn, 1) := by decide +kernel
end
section
theorem d_R_init_0 : decode b_R_init 0 = .ok (.aload_n 0, 1) := by decide +kernel
theorem d_R_init_1 : decode b_R_init 1 = .ok (.invokespecial 3, 3) := by decide +kernel
theorem d_R_init_4 : decode b_R_init 4 = .ok (.aload_n 0, 1) := by decide +kernel
theorem d_R_init_5 : decode b_R_init 5 = .ok (.new 9, 3) := by decide +kernel
theorem d_R_init_8 : decode b_R_init 8 = .ok (.dup, 1) := by decide +kernel
theorem d_R_init_9 : decode b_R_init 9 = .ok (.invokespecial 11, 3) := by decide +kernel
theorem d_R_init_12 : decode b_R_init 12 = .ok (.putfield 12, 3) := by decide +kernel
theorem d_R_init_15 : decode b_R_init 15 = .ok (.aload_n 0, 1) := by decide +kernel
theorem d_R_init_16 : decode b_R_init 16 = .ok (.aload_n 1, 1) := by decide +kernel
theorem d_R_init_17 : decode b_R_init 17 = .ok (.putfield 18, 3) := by decide +kernel
theorem d_R_init_20 : decode b_R_init 20 = .ok (.aload_n 0, 1) := by decide +kernel
theorem d_R_init_21 : decode b_R_init 21 = .ok (.aload_n 1, 1) := by decide +kernel
theorem d_R_init_22 : decode b_R_init 22 = .ok (.getfield 22, 3) := by decide +kernel
theorem d_R_init_25 : decode b_R_init 25 = .ok (.putfield 28, 3) := by decide +kernel
theorem d_R_init_28 : decode b_R_init 28 = .ok (.return_, 1) := by decide +kernel
theorem d_R_canStandAlone_0 : decode b_R_canStandAlone 0 = .ok (.aload_n 0, 1) := by decide +kernel
theorem d_R_canStandAlone_1 : decode b_R_canStandAlone 1 = .ok (.aload_n 0, 1) := by decide +kernel
theorem d_R_canStandAlone_2 : decode b_R_canStandAlone 2 = .ok (.getfield 12, 3) := by decide +kernel
theorem d_R_canStandAlone_5 : decode b_R_canStandAlone 5 = .ok (.iload_n 1, 1) := by decide +kernel
theorem d_R_canStandAlone_6 : decode b_R_canStandAlone 6 = .ok (.iconst 0, 1) := by decide +kernel
theorem d_R_canStandAlone_7 : decode b_R_canStandAlone 7 = .ok (.invokevirtual 29, 3) := by decide +kernel
theorem d_R_canStandAlone_10 : decode b_R_canStandAlone 10 = .ok (.aload_n 0, 1) := by decide +kernel
theorem d_R_canStandAlone_11 : decode b_R_canStandAlone 11 = .ok (.getfield 12, 3) := by decide +kernel
theorem d_R_canStandAlone_14 : decode b_R_canStandAlone 14 = .ok (.invokevirtual 33, 3) := by decide +kernel
theorem d_R_canStandAlone_17 : decode b_R_canStandAlone 17 = .ok (.ifCond .eq 28, 3) := by decide +kernel
theorem d_R_canStandAlone_20 : decode b_R_canStandAlone 20 = .ok (.aload_n 0, 1) := by decide +kernel
theorem d_R_canStandAlone_21 : decode b_R_canStandAlone 21 = .ok (.getfield 18, 3) := by decide +kernel
theorem d_R_canStandAlone_24 : decode b_R_canStandAlone 24 = .ok (.getfield 37, 3) := by decide +kernel
theorem d_R_canStandAlone_27 : decode b_R_canStandAlone 27 = .ok (.iload_n 1, 1) := by decide +kernel
theorem d_R_canStandAlone_28 : decode b_R_canStandAlone 28 = .ok (.aaload, 1) := by decide +kernel
theorem d_R_canStandAlone_29 : decode b_R_canStandAlone 29 = .ok (.getfield 41, 3) := by decide +kernel
theorem d_R_canStandAlone_32 : decode b_R_canStandAlone 32 = .ok (.ifCond .eq 13, 3) := by decide +kernel
theorem d_R_canStandAlone_35 : decode b_R_canStandAlone 35 = .ok (.aload_n 0, 1) := by decide +kernel
theorem d_R_canStandAlone_36 : decode b_R_canStandAlone 36 = .ok (.aload_n 0, 1) := by decide +kernel
theorem d_R_canStandAlone_37 : decode b_R_canStandAlone 37 = .ok (.getfield 12, 3) := by decide +kernel
theorem d_R_canStandAlone_40 : decode b_R_canStandAlone 40 = .ok (.iload_n 1, 1) := by decide +kernel
theorem d_R_canStandAlone_41 : decode b_R_canStandAlone 41 = .ok (.iconst 1, 1) := by decide +kernel
theorem d_R_canStandAlone_42 : decode b_R_canStandAlone 42 = .ok (.invokevirtual 29, 3) := by decide +kernel
theorem d_R_canStandAlone_45 : decode b_R_canStandAlone 45 = .ok (.aload_n 0, 1) := by decide +kernel
theorem d_R_canStandAlone_46 : decode b_R_canStandAlone 46 = .ok (.getfield 12, 3) := by decide +kernel
theorem d_R_canStandAlone_49 : decode b_R_canStandAlone 49 = .ok (.invokevirtual 33, 3) := by decide +kernel
theorem d_R_canStandAlone_52 : decode b_R_canStandAlone 52 = .ok (.ifCond .ne 7, 3) := by decide +kernel
theorem d_R_canStandAlone_55 : decode b_R_canStandAlone 55 = .ok (.iconst 1, 1) := by decide +kernel
theorem d_R_canStandAlone_56 : decode b_R_canStandAlone 56 = .ok (.goto 4, 3) := by decide +kernel
theorem d_R_canStandAlone_59 : decode b_R_canStandAlone 59 = .ok (.iconst 0, 1) := by decide +kernel
theorem d_R_canStandAlone_60 : decode b_R_canStandAlone 60 = .ok (.ireturn, 1) := by decide +kernel
theorem d_R_open_0 : decode b_R_open 0 = .ok (.aload_n 0, 1) := by decide +kernel
theorem d_R_open_1 : decode b_R_open 1 = .ok (.aload_n 1, 1) := by decide +kernel
theorem d_R_open_2 : decode b_R_open 2 = .ok (.iload_n 3, 1) := by decide +kernel
theorem d_R_open_3 : decode b_R_open 3 = .ok (.iload 4, 2) := by decide +kernel
theorem d_R_open_5 : decode b_R_open 5 = .ok (.invokevirtual 29, 3) := by decide +kernel
theorem d_R_open_8 : decode b_R_open 8 = .ok (.iconst 0, 1) := by decide +kernel
theorem d_R_open_9 : decode b_R_open 9 = .ok (.istore 6, 2) := by decide +kernel
theorem d_R_open_11 : decode b_R_open 11 = .ok (.iload 6, 2) := by decide +kernel
theorem d_R_open_13 : decode b_R_open 13 = .ok (.iload 5, 2) := by decide +kernel
theorem d_R_open_15 : decode b_R_open 15 = .ok (.if_icmp .ge 26, 3) := by decide +kernel
theorem d_R_open_18 : decode b_R_open 18 = .ok (.iload 6, 2) := by decide +kernel
theorem d_R_open_20 : decode b_R_open 20 = .ok (.iload_n 3, 1) := by decide +kernel
theorem d_R_open_21 : decode b_R_open 21 = .ok (.if_icmp .eq 14, 3) := by decide +kernel
theorem d_R_open_24 : decode b_R_open 24 = .ok (.aload_n 0, 1) := by decide +kernel
theorem d_R_open_25 : decode b_R_open 25 = .ok (.aload_n 1, 1) := by decide +kernel
theorem d_R_open_26 : decode b_R_open 26 = .ok (.aload_n 2, 1) := by decide +kernel
theorem d_R_open_27 : decode b_R_open 27 = .ok (.iload 6, 2) := by decide +kernel
theorem d_R_open_29 : decode b_R_open 29 = .ok (.iload_n 3, 1) := by decide +kernel
theorem d_R_open_30 : decode b_R_open 30 = .ok (.iload 4, 2) := by decide +kernel
theorem d_R_open_32 : decode b_R_open 32 = .ok (.invokevirtual 47, 3) := by decide +kernel
theorem d_R_open_35 : decode b_R_open 35 = .ok (.iinc 6 1, 3) := by decide +kernel
theorem d_R_open_38 : decode b_R_open 38 = .ok (.goto (-27), 3) := by decide +kernel
theorem d_R_open_41 : decode b_R_open 41 = .ok (.return_, 1) := by decide +kernel
theorem d_R_openAlone_0 : decode b_R_openAlone 0 = .ok (.aload_n 0, 1) := by decide +kernel
theorem d_R_openAlone_1 : decode b_R_openAlone 1 = .ok (.getfield 18, 3) := by decide +kernel
theorem d_R_openAlone_4 : decode b_R_openAlone 4 = .ok (.getfield 37, 3) := by decide +kernel
theorem d_R_openAlone_7 : decode b_R_openAlone 7 = .ok (.iload_n 2, 1) := by decide +kernel
theorem d_R_openAlone_8 : decode b_R_openAlone 8 = .ok (.aaload, 1) := by decide +kernel
theorem d_R_openAlone_9 : decode b_R_openAlone 9 = .ok (.astore 4, 2) := by decide +kernel
theorem d_R_openAlone_11 : decode b_R_openAlone 11 = .ok (.aload_n 0, 1) := by decide +kernel
theorem d_R_openAlone_12 : decode b_R_openAlone 12 = .ok (.getfield 28, 3) := by decide +kernel
theorem d_R_openAlone_15 : decode b_R_openAlone 15 = .ok (.bipush 100, 2) := by decide +kernel
theorem d_R_openAlone_17 : decode b_R_openAlone 17 = .ok (.invokevirtual 51, 3) := by decide +kernel
theorem d_R_openAlone_20 : decode b_R_openAlone 20 = .ok (.iconst 1, 1) := by decide +kernel
theorem d_R_openAlone_21 : decode b_R_openAlone 21 = .ok (.isub, 1) := by decide +kernel
theorem d_R_openAlone_22 : decode b_R_openAlone 22 = .ok (.istore 5, 2) := by decide +kernel
theorem d_R_openAlone_24 : decode b_R_openAlone 24 = .ok (.aload_n 0, 1) := by decide +kernel
theorem d_R_openAlone_25 : decode b_R_openAlone 25 = .ok (.getfield 28, 3) := by decide +kernel
theorem d_R_openAlone_28 : decode b_R_openAlone 28 = .ok (.aload 4, 2) := by decide +kernel
theorem d_R_openAlone_30 : decode b_R_openAlone 30 = .ok (.getfield 57, 3) := by decide +kernel
theorem d_R_openAlone_33 : decode b_R_openAlone 33 = .ok (.iconst 1, 1) := by decide +kernel
theorem d_R_openAlone_34 : decode b_R_openAlone 34 = .ok (.iadd, 1) := by decide +kernel
theorem d_R_openAlone_35 : decode b_R_openAlone 35 = .ok (.invokevirtual 51, 3) := by decide +kernel
theorem d_R_openAlone_38 : decode b_R_openAlone 38 = .ok (.aload 4, 2) := by decide +kernel
theorem d_R_openAlone_40 : decode b_R_openAlone 40 = .ok (.getfield 61, 3) := by decide +kernel
theorem d_R_openAlone_43 : decode b_R_openAlone 43 = .ok (.isub, 1) := by decide +kernel
theorem d_R_openAlone_44 : decode b_R_openAlone 44 = .ok (.istore 6, 2) := by decide +kernel
theorem d_R_openAlone_46 : decode b_R_openAlone 46 = .ok (.aload_n 1, 1) := by decide +kernel
theorem d_R_openAlone_47 : decode b_R_openAlone 47 = .ok (.aload_n 0, 1) := by decide +kernel
theorem d_R_openAlone_48 : decode b_R_openAlone 48 = .ok (.getfield 28, 3) := by decide +kernel
theorem d_R_openAlone_51 : decode b_R_openAlone 51 = .ok (.aload 4, 2) := by decide +kernel
theorem d_R_openAlone_53 : decode b_R_openAlone 53 = .ok (.getfield 64, 3) := by decide +kernel
theorem d_R_openAlone_56 : decode b_R_openAlone 56 = .ok (.invokevirtual 51, 3) := by decide +kernel
theorem d_R_openAlone_59 : decode b_R_openAlone 59 = .ok (.iload 5, 2) := by decide +kernel
theorem d_R_openAlone_61 : decode b_R_openAlone 61 = .ok (.iload 6, 2) := by decide +kernel
theorem d_R_openAlone_63 : decode b_R_openAlone 63 = .ok (.invokestatic 67, 3) := by decide +kernel
theorem d_R_openAlone_66 : decode b_R_openAlone 66 = .ok (.invokevirtual 73, 3) := by decide +kernel
theorem d_R_openAlone_69 : decode b_R_openAlone 69 = .ok (.aload_n 1, 1) := by decide +kernel
theorem d_R_openAlone_70 : decode b_R_openAlone 70 = .ok (.aload_n 0, 1) := by decide +kernel
theorem d_R_openAlone_71 : decode b_R_openAlone 71 = .ok (.getfield 28, 3) := by decide +kernel
theorem d_R_openAlone_74 : decode b_R_openAlone 74 = .ok (.aload 4, 2) := by decide +kernel
theorem d_R_openAlone_76 : decode b_R_openAlone 76 = .ok (.getfield 77, 3) := by decide +kernel
theorem d_R_openAlone_79 : decode b_R_openAlone 79 = .ok (.invokevirtual 51, 3) := by decide +kernel
theorem d_R_openAlone_82 : decode b_R_openAlone 82 = .ok (.invokevirtual 80, 3) := by decide +kernel
theorem d_R_openAlone_85 : decode b_R_openAlone 85 = .ok (.iconst 0, 1) := by decide +kernel
theorem d_R_openAlone_86 : decode b_R_openAlone 86 = .ok (.istore 7, 2) := by decide +kernel
theorem d_R_openAlone_88 : decode b_R_openAlone 88 = .ok (.iload 7, 2) := by decide +kernel
theorem d_R_openAlone_90 : decode b_R_openAlone 90 = .ok (.aload_n 0, 1) := by decide +kernel
theorem d_R_openAlone_91 : decode b_R_openAlone 91 = .ok (.getfield 18, 3) := by decide +kernel
theorem d_R_openAlone_94 : decode b_R_openAlone 94 = .ok (.getfield 84, 3) := by decide +kernel
theorem d_R_openAlone_97 : decode b_R_openAlone 97 = .ok (.if_icmp .ge 64, 3) := by decide +kernel
theorem d_R_openAlone_100 : decode b_R_openAlone 100 = .ok (.aload_n 0, 1) := by decide +kernel
theorem d_R_openAlone_101 : decode b_R_openAlone 101 = .ok (.getfield 18, 3) := by decide +kernel
theorem d_R_openAlone_104 : decode b_R_openAlone 104 = .ok (.getfield 87, 3) := by decide +kernel
theorem d_R_openAlone_107 : decode b_R_openAlone 107 = .ok (.iload 7, 2) := by decide +kernel
theorem d_R_openAlone_109 : decode b_R_openAlone 109 = .ok (.iaload, 1) := by decide +kernel
theorem d_R_openAlone_110 : decode b_R_openAlone 110 = .ok (.iload_n 2, 1) := by decide +kernel
theorem d_R_openAlone_111 : decode b_R_openAlone 111 = .ok (.if_icmp .ne 44, 3) := by decide +kernel
theorem d_R_openAlone_114 : decode b_R_openAlone 114 = .ok (.aload 4, 2) := by decide +kernel
theorem d_R_openAlone_116 : decode b_R_openAlone 116 = .ok (.aload_n 0, 1) := by decide +kernel
theorem d_R_openAlone_117 : decode b_R_openAlone 117 = .ok (.getfield 18, 3) := by decide +kernel
theorem d_R_openAlone_120 : decode b_R_openAlone 120 = .ok (.getfield 91, 3) := by decide +kernel
theorem d_R_openAlone_123 : decode b_R_openAlone 123 = .ok (.iload 7, 2) := by decide +kernel
theorem d_R_openAlone_125 : decode b_R_openAlone 125 = .ok (.iaload, 1) := by decide +kernel
theorem d_R_openAlone_126 : decode b_R_openAlone 126 = .ok (.iload_n 3, 1) := by decide +kernel
theorem d_R_openAlone_127 : decode b_R_openAlone 127 = .ok (.invokevirtual 94, 3) := by decide +kernel
theorem d_R_openAlone_130 : decode b_R_openAlone 130 = .ok (.istore 8, 2) := by decide +kernel
theorem d_R_openAlone_132 : decode b_R_openAlone 132 = .ok (.aload_n 1, 1) := by decide +kernel
theorem d_R_openAlone_133 : decode b_R_openAlone 133 = .ok (.aload_n 0, 1) := by decide +kernel
theorem d_R_openAlone_134 : decode b_R_openAlone 134 = .ok (.aload 4, 2) := by decide +kernel
theorem d_R_openAlone_136 : decode b_R_openAlone 136 = .ok (.iload 8, 2) := by decide +kernel
theorem d_R_openAlone_138 : decode b_R_openAlone 138 = .ok (.aload_n 0, 1) := by decide +kernel
theorem d_R_openAlone_139 : decode b_R_openAlone 139 = .ok (.getfield 18, 3) := by decide +kernel
theorem d_R_openAlone_142 : decode b_R_openAlone 142 = .ok (.getfield 97, 3) := by decide +kernel
theorem d_R_openAlone_145 : decode b_R_openAlone 145 = .ok (.iload 7, 2) := by decide +kernel
theorem d_R_openAlone_147 : decode b_R_openAlone 147 = .ok (.iaload, 1) := by decide +kernel
theorem d_R_openAlone_148 : decode b_R_openAlone 148 = .ok (.iconst 1, 1) := by decide +kernel
theorem d_R_openAlone_149 : decode b_R_openAlone 149 = .ok (.invokevirtual 100, 3) := by decide +kernel
theorem d_R_openAlone_152 : decode b_R_openAlone 152 = .ok (.invokevirtual 80, 3) := by decide +kernel
theorem d_R_openAlone_155 : decode b_R_openAlone 155 = .ok (.iinc 7 1, 3) := by decide +kernel
theorem d_R_openAlone_158 : decode b_R_openAlone 158 = .ok (.goto (-70), 3) := by decide +kernel
theorem d_R_openAlone_161 : decode b_R_openAlone 161 = .ok (.return_, 1) := by decide +kernel
theorem d_R_keepGaps_0 : decode b_R_keepGaps 0 = .ok (.aload_n 0, 1) := by decide +kernel
theorem d_R_keepGaps_1 : decode b_R_keepGaps 1 = .ok (.getfield 18, 3) := by decide +kernel
theorem d_R_keepGaps_4 : decode b_R_keepGaps 4 = .ok (.iload_n 3, 1) := by decide +kernel
theorem d_R_keepGaps_5 : decode b_R_keepGaps 5 = .ok (.iload 4, 2) := by decide +kernel
theorem d_R_keepGaps_7 : decode b_R_keepGaps 7 = .ok (.invokevirtual 104, 3) := by decide +kernel
theorem d_R_keepGaps_10 : decode b_R_keepGaps 10 = .ok (.istore 6, 2) := by decide +kernel
theorem d_R_keepGaps_12 : decode b_R_keepGaps 12 = .ok (.aload_n 0, 1) := by decide +kernel
theorem d_R_keepGaps_13 : decode b_R_keepGaps 13 = .ok (.getfield 18, 3) := by decide +kernel
theorem d_R_keepGaps_16 : decode b_R_keepGaps 16 = .ok (.iload 4, 2) := by decide +kernel
theorem d_R_keepGaps_18 : decode b_R_keepGaps 18 = .ok (.iload_n 3, 1) := by decide +kernel
theorem d_R_keepGaps_19 : decode b_R_keepGaps 19 = .ok (.invokevirtual 104, 3) := by decide +kernel
theorem d_R_keepGaps_22 : decode b_R_keepGaps 22 = .ok (.istore 7, 2) := by decide +kernel
theorem d_R_keepGaps_24 : decode b_R_keepGaps 24 = .ok (.iload 6, 2) := by decide +kernel
theorem d_R_keepGaps_26 : decode b_R_keepGaps 26 = .ok (.iconst (-1), 1) := by decide +kernel
theorem d_R_keepGaps_27 : decode b_R_keepGaps 27 = .ok (.if_icmp .ne 10, 3) := by decide +kernel
theorem d_R_keepGaps_30 : decode b_R_keepGaps 30 = .ok (.iload 7, 2) := by decide +kernel
theorem d_R_keepGaps_32 : decode b_R_keepGaps 32 = .ok (.iconst (-1), 1) := by decide +kernel
theorem d_R_keepGaps_33 : decode b_R_keepGaps 33 = .ok (.if_icmp .ne 4, 3) := by decide +kernel
theorem d_R_keepGaps_36 : decode b_R_keepGaps 36 = .ok (.return_, 1) := by decide +kernel
theorem d_R_keepGaps_37 : decode b_R_keepGaps 37 = .ok (.aload_n 0, 1) := by decide +kernel
theorem d_R_keepGaps_38 : decode b_R_keepGaps 38 = .ok (.getfield 18, 3) := by decide +kernel
theorem d_R_keepGaps_41 : decode b_R_keepGaps 41 = .ok (.getfield 37, 3) := by decide +kernel
theorem d_R_keepGaps_44 : decode b_R_keepGaps 44 = .ok (.iload 4, 2) := by decide +kernel
theorem d_R_keepGaps_46 : decode b_R_keepGaps 46 = .ok (.aaload, 1) := by decide +kernel
theorem d_R_keepGaps_47 : decode b_R_keepGaps 47 = .ok (.astore 8, 2) := by decide +kernel
theorem d_R_keepGaps_49 : decode b_R_keepGaps 49 = .ok (.aload_n 0, 1) := by decide +kernel
theorem d_R_keepGaps_50 : decode b_R_keepGaps 50 = .ok (.getfield 18, 3) := by decide +kernel
theorem d_R_keepGaps_53 : decode b_R_keepGaps 53 = .ok (.getfield 37, 3) := by decide +kernel
theorem d_R_keepGaps_56 : decode b_R_keepGaps 56 = .ok (.iload_n 3, 1) := by decide +kernel
theorem d_R_keepGaps_57 : decode b_R_keepGaps 57 = .ok (.aaload, 1) := by decide +kernel
theorem d_R_keepGaps_58 : decode b_R_keepGaps 58 = .ok (.getfield 107, 3) := by decide +kernel
theorem d_R_keepGaps_61 : decode b_R_keepGaps 61 = .ok (.istore 9, 2) := by decide +kernel
theorem d_R_keepGaps_63 : decode b_R_keepGaps 63 = .ok (.aload_n 0, 1) := by decide +kernel
theorem d_R_keepGaps_64 : decode b_R_keepGaps 64 = .ok (.getfield 18, 3) := by decide +kernel
theorem d_R_keepGaps_67 : decode b_R_keepGaps 67 = .ok (.iload_n 3, 1) := by decide +kernel
theorem d_R_keepGaps_68 : decode b_R_keepGaps 68 = .ok (.iload 4, 2) := by decide +kernel
theorem d_R_keepGaps_70 : decode b_R_keepGaps 70 = .ok (.invokevirtual 110, 3) := by decide +kernel
theorem d_R_keepGaps_73 : decode b_R_keepGaps 73 = .ok (.istore 10, 2) := by decide +kernel
theorem d_R_keepGaps_75 : decode b_R_keepGaps 75 = .ok (.aload_n 0, 1) := by decide +kernel
theorem d_R_keepGaps_76 : decode b_R_keepGaps 76 = .ok (.getfield 18, 3) := by decide +kernel
theorem d_R_keepGaps_79 : decode b_R_keepGaps 79 = .ok (.iload_n 3, 1) := by decide +kernel
theorem d_R_keepGaps_80 : decode b_R_keepGaps 80 = .ok (.iload 4, 2) := by decide +kernel
theorem d_R_keepGaps_82 : decode b_R_keepGaps 82 = .ok (.invokevirtual 113, 3) := by decide +kernel
theorem d_R_keepGaps_85 : decode b_R_keepGaps 85 = .ok (.istore 11, 2) := by decide +kernel
theorem d_R_keepGaps_87 : decode b_R_keepGaps 87 = .ok (.iload 11, 2) := by decide +kernel
theorem d_R_keepGaps_89 : decode b_R_keepGaps 89 = .ok (.iload 10, 2) := by decide +kernel
theorem d_R_keepGaps_91 : decode b_R_keepGaps 91 = .ok (.if_icmp .gt 104, 3) := by decide +kernel
theorem d_R_keepGaps_94 : decode b_R_keepGaps 94 = .ok (.aload 8, 2) := by decide +kernel
theorem d_R_keepGaps_96 : decode b_R_keepGaps 96 = .ok (.iload 11, 2) := by decide +kernel
theorem d_R_keepGaps_98 : decode b_R_keepGaps 98 = .ok (.iload 5, 2) := by decide +kernel
theorem d_R_keepGaps_100 : decode b_R_keepGaps 100 = .ok (.invokevirtual 94, 3) := by decide +kernel
theorem d_R_keepGaps_103 : decode b_R_keepGaps 103 = .ok (.istore 12, 2) := by decide +kernel
theorem d_R_keepGaps_105 : decode b_R_keepGaps 105 = .ok (.iload 6, 2) := by decide +kernel
theorem d_R_keepGaps_107 : decode b_R_keepGaps 107 = .ok (.iconst (-1), 1) := by decide +kernel
theorem d_R_keepGaps_108 : decode b_R_keepGaps 108 = .ok (.if_icmp .eq 39, 3) := by decide +kernel
theorem d_R_keepGaps_111 : decode b_R_keepGaps 111 = .ok (.aload_n 0, 1) := by decide +kernel
theorem d_R_keepGaps_112 : decode b_R_keepGaps 112 = .ok (.getfield 18, 3) := by decide +kernel
theorem d_R_keepGaps_115 : decode b_R_keepGaps 115 = .ok (.iload_n 3, 1) := by decide +kernel
theorem d_R_keepGaps_116 : decode b_R_keepGaps 116 = .ok (.aload_n 2, 1) := by decide +kernel
theorem d_R_keepGaps_117 : decode b_R_keepGaps 117 = .ok (.iload 11, 2) := by decide +kernel
theorem d_R_keepGaps_119 : decode b_R_keepGaps 119 = .ok (.iconst 1, 1) := by decide +kernel
theorem d_R_keepGaps_120 : decode b_R_keepGaps 120 = .ok (.invokevirtual 116, 3) := by decide +kernel
theorem d_R_keepGaps_123 : decode b_R_keepGaps 123 = .ok (.iload 6, 2) := by decide +kernel
theorem d_R_keepGaps_125 : decode b_R_keepGaps 125 = .ok (.iload 9, 2) := by decide +kernel
theorem d_R_keepGaps_127 : decode b_R_keepGaps 127 = .ok (.imul, 1) := by decide +kernel
theorem d_R_keepGaps_128 : decode b_R_keepGaps 128 = .ok (.iadd, 1) := by decide +kernel
theorem d_R_keepGaps_129 : decode b_R_keepGaps 129 = .ok (.istore 13, 2) := by decide +kernel
theorem d_R_keepGaps_131 : decode b_R_keepGaps 131 = .ok (.aload_n 1, 1) := by decide +kernel
theorem d_R_keepGaps_132 : decode b_R_keepGaps 132 = .ok (.aload_n 0, 1) := by decide +kernel
theorem d_R_keepGaps_133 : decode b_R_keepGaps 133 = .ok (.aload 8, 2) := by decide +kernel
theorem d_R_keepGaps_135 : decode b_R_keepGaps 135 = .ok (.iload 12, 2) := by decide +kernel
theorem d_R_keepGaps_137 : decode b_R_keepGaps 137 = .ok (.iload 13, 2) := by decide +kernel
theorem d_R_keepGaps_139 : decode b_R_keepGaps 139 = .ok (.iload 9, 2) := by decide +kernel
theorem d_R_keepGaps_141 : decode b_R_keepGaps 141 = .ok (.invokevirtual 100, 3) := by decide +kernel
theorem d_R_keepGaps_144 : decode b_R_keepGaps 144 = .ok (.invokevirtual 80, 3) := by decide +kernel
theorem d_R_keepGaps_147 : decode b_R_keepGaps 147 = .ok (.iload 7, 2) := by decide +kernel
theorem d_R_keepGaps_149 : decode b_R_keepGaps 149 = .ok (.iconst (-1), 1) := by decide +kernel
theorem d_R_keepGaps_150 : decode b_R_keepGaps 150 = .ok (.if_icmp .eq 39, 3) := by decide +kernel
theorem d_R_keepGaps_153 : decode b_R_keepGaps 153 = .ok (.aload_n 0, 1) := by decide +kernel
theorem d_R_keepGaps_154 : decode b_R_keepGaps 154 = .ok (.getfield 18, 3) := by decide +kernel
theorem d_R_keepGaps_157 : decode b_R_keepGaps 157 = .ok (.iload_n 3, 1) := by decide +kernel
theorem d_R_keepGaps_158 : decode b_R_keepGaps 158 = .ok (.aload_n 2, 1) := by decide +kernel
theorem d_R_keepGaps_159 : decode b_R_keepGaps 159 = .ok (.iload 11, 2) := by decide +kernel
theorem d_R_keepGaps_161 : decode b_R_keepGaps 161 = .ok (.iconst 0, 1) := by decide +kernel
theorem d_R_keepGaps_162 : decode b_R_keepGaps 162 = .ok (.invokevirtual 116, 3) := by decide +kernel
theorem d_R_keepGaps_165 : decode b_R_keepGaps 165 = .ok (.iload 7, 2) := by decide +kernel
theorem d_R_keepGaps_167 : decode b_R_keepGaps 167 = .ok (.iload 9, 2) := by decide +kernel
theorem d_R_keepGaps_169 : decode b_R_keepGaps 169 = .ok (.imul, 1) := by decide +kernel
theorem d_R_keepGaps_170 : decode b_R_keepGaps 170 = .ok (.isub, 1) := by decide +kernel
theorem d_R_keepGaps_171 : decode b_R_keepGaps 171 = .ok (.istore 13, 2) := by decide +kernel
theorem d_R_keepGaps_173 : decode b_R_keepGaps 173 = .ok (.aload_n 1, 1) := by decide +kernel
theorem d_R_keepGaps_174 : decode b_R_keepGaps 174 = .ok (.aload_n 0, 1) := by decide +kernel
theorem d_R_keepGaps_175 : decode b_R_keepGaps 175 = .ok (.aload 8, 2) := by decide +kernel
theorem d_R_keepGaps_177 : decode b_R_keepGaps 177 = .ok (.iload 12, 2) := by decide +kernel
theorem d_R_keepGaps_179 : decode b_R_keepGaps 179 = .ok (.iload 13, 2) := by decide +kernel
theorem d_R_keepGaps_181 : decode b_R_keepGaps 181 = .ok (.iload 9, 2) := by decide +kernel
theorem d_R_keepGaps_183 : decode b_R_keepGaps 183 = .ok (.invokevirtual 120, 3) := by decide +kernel
theorem d_R_keepGaps_186 : decode b_R_keepGaps 186 = .ok (.invokevirtual 123, 3) := by decide +kernel
theorem d_R_keepGaps_189 : decode b_R_keepGaps 189 = .ok (.iinc 11 1, 3) := by decide +kernel
theorem d_R_keepGaps_192 : decode b_R_keepGaps 192 = .ok (.goto (-105), 3) := by decide +kernel
theorem d_R_keepGaps_195 : decode b_R_keepGaps 195 = .ok (.return_, 1) := by decide +kernel
theorem d_R_firstStart_0 : decode b_R_firstStart 0 = .ok (.aload_n 1, 1) := by decide +kernel
theorem d_R_firstStart_1 : decode b_R_firstStart 1 = .ok (.iload_n 2, 1) := by decide +kernel
theorem d_R_firstStart_2 : decode b_R_firstStart 2 = .ok (.iconst 0, 1) := by decide +kernel
theorem d_R_firstStart_3 : decode b_R_firstStart 3 = .ok (.invokevirtual 126, 3) := by decide +kernel
theorem d_R_firstStart_6 : decode b_R_firstStart 6 = .ok (.istore 5, 2) := by decide +kernel
theorem d_R_firstStart_8 : decode b_R_firstStart 8 = .ok (.iload_n 2, 1) := by decide +kernel
theorem d_R_firstStart_9 : decode b_R_firstStart 9 = .ok (.iload 5, 2) := by decide +kernel
theorem d_R_firstStart_11 : decode b_R_firstStart 11 = .ok (.aload_n 1, 1) := by decide +kernel
theorem d_R_firstStart_12 : decode b_R_firstStart 12 = .ok (.getfield 107, 3) := by decide +kernel
theorem d_R_firstStart_15 : decode b_R_firstStart 15 = .ok (.imul, 1) := by decide +kernel
theorem d_R_firstStart_16 : decode b_R_firstStart 16 = .ok (.isub, 1) := by decide +kernel
theorem d_R_firstStart_17 : decode b_R_firstStart 17 = .ok (.istore 6, 2) := by decide +kernel
theorem d_R_firstStart_19 : decode b_R_firstStart 19 = .ok (.iload 4, 2) := by decide +kernel
theorem d_R_firstStart_21 : decode b_R_firstStart 21 = .ok (.aload_n 1, 1) := by decide +kernel
theorem d_R_firstStart_22 : decode b_R_firstStart 22 = .ok (.getfield 107, 3) := by decide +kernel
theorem d_R_firstStart_25 : decode b_R_firstStart 25 = .ok (.imul, 1) := by decide +kernel
theorem d_R_firstStart_26 : decode b_R_firstStart 26 = .ok (.istore 7, 2) := by decide +kernel
theorem d_R_firstStart_28 : decode b_R_firstStart 28 = .ok (.iload 7, 2) := by decide +kernel
theorem d_R_firstStart_30 : decode b_R_firstStart 30 = .ok (.iconst 1, 1) := by decide +kernel
theorem d_R_firstStart_31 : decode b_R_firstStart 31 = .ok (.if_icmp .ge 7, 3) := by decide +kernel
theorem d_R_firstStart_34 : decode b_R_firstStart 34 = .ok (.iconst 0, 1) := by decide +kernel
theorem d_R_firstStart_35 : decode b_R_firstStart 35 = .ok (.goto 21, 3) := by decide +kernel
theorem d_R_firstStart_38 : decode b_R_firstStart 38 = .ok (.iload 6, 2) := by decide +kernel
theorem d_R_firstStart_40 : decode b_R_firstStart 40 = .ok (.iload 4, 2) := by decide +kernel
theorem d_R_firstStart_42 : decode b_R_firstStart 42 = .ok (.imul, 1) := by decide +kernel
theorem d_R_firstStart_43 : decode b_R_firstStart 43 = .ok (.iload_n 3, 1) := by decide +kernel
theorem d_R_firstStart_44 : decode b_R_firstStart 44 = .ok (.aload_n 1, 1) := by decide +kernel
theorem d_R_firstStart_45 : decode b_R_firstStart 45 = .ok (.getfield 107, 3) := by decide +kernel
theorem d_R_firstStart_48 : decode b_R_firstStart 48 = .ok (.imul, 1) := by decide +kernel
theorem d_R_firstStart_49 : decode b_R_firstStart 49 = .ok (.isub, 1) := by decide +kernel
theorem d_R_firstStart_50 : decode b_R_firstStart 50 = .ok (.iload 7, 2) := by decide +kernel
theorem d_R_firstStart_52 : decode b_R_firstStart 52 = .ok (.invokestatic 130, 3) := by decide +kernel
theorem d_R_firstStart_55 : decode b_R_firstStart 55 = .ok (.ineg, 1) := by decide +kernel
theorem d_R_firstStart_56 : decode b_R_firstStart 56 = .ok (.istore 8, 2) := by decide +kernel
theorem d_R_firstStart_58 : decode b_R_firstStart 58 = .ok (.aload_n 0, 1) := by decide +kernel
theorem d_R_firstStart_59 : decode b_R_firstStart 59 = .ok (.getfield 28, 3) := by decide +kernel
theorem d_R_firstStart_62 : decode b_R_firstStart 62 = .ok (.iload 8, 2) := by decide +kernel
theorem d_R_firstStart_64 : decode b_R_firstStart 64 = .ok (.invokevirtual 51, 3) := by decide +kernel
theorem d_R_firstStart_67 : decode b_R_firstStart 67 = .ok (.iload 5, 2) := by decide +kernel
theorem d_R_firstStart_69 : decode b_R_firstStart 69 = .ok (.isub, 1) := by decide +kernel
theorem d_R_firstStart_70 : decode b_R_firstStart 70 = .ok (.ireturn, 1) := by decide +kernel
theorem d_R_lastStart_0 : decode b_R_lastStart 0 = .ok (.aload_n 1, 1) := by decide +kernel
theorem d_R_lastStart_1 : decode b_R_lastStart 1 = .ok (.iload_n 2, 1) := by decide +kernel
theorem d_R_lastStart_2 : decode b_R_lastStart 2 = .ok (.iconst 1, 1) := by decide +kernel
theorem d_R_lastStart_3 : decode b_R_lastStart 3 = .ok (.invokevirtual 126, 3) := by decide +kernel
theorem d_R_lastStart_6 : decode b_R_lastStart 6 = .ok (.istore 5, 2) := by decide +kernel
theorem d_R_lastStart_8 : decode b_R_lastStart 8 = .ok (.iload_n 2, 1) := by decide +kernel
theorem d_R_lastStart_9 : decode b_R_lastStart 9 = .ok (.iload 5, 2) := by decide +kernel
theorem d_R_lastStart_11 : decode b_R_lastStart 11 = .ok (.aload_n 1, 1) := by decide +kernel
theorem d_R_lastStart_12 : decode b_R_lastStart 12 = .ok (.getfield 107, 3) := by decide +kernel
theorem d_R_lastStart_15 : decode b_R_lastStart 15 = .ok (.imul, 1) := by decide +kernel
theorem d_R_lastStart_16 : decode b_R_lastStart 16 = .ok (.isub, 1) := by decide +kernel
theorem d_R_lastStart_17 : decode b_R_lastStart 17 = .ok (.istore 6, 2) := by decide +kernel
theorem d_R_lastStart_19 : decode b_R_lastStart 19 = .ok (.iload 4, 2) := by decide +kernel
theorem d_R_lastStart_21 : decode b_R_lastStart 21 = .ok (.aload_n 1, 1) := by decide +kernel
theorem d_R_lastStart_22 : decode b_R_lastStart 22 = .ok (.getfield 107, 3) := by decide +kernel
theorem d_R_lastStart_25 : decode b_R_lastStart 25 = .ok (.imul, 1) := by decide +kernel
theorem d_R_lastStart_26 : decode b_R_lastStart 26 = .ok (.istore 7, 2) := by decide +kernel
theorem d_R_lastStart_28 : decode b_R_lastStart 28 = .ok (.iload 7, 2) := by decide +kernel
theorem d_R_lastStart_30 : decode b_R_lastStart 30 = .ok (.iconst 1, 1) := by decide +kernel
theorem d_R_lastStart_31 : decode b_R_lastStart 31 = .ok (.if_icmp .ge 7, 3) := by decide +kernel
theorem d_R_lastStart_34 : decode b_R_lastStart 34 = .ok (.iconst 0, 1) := by decide +kernel
theorem d_R_lastStart_35 : decode b_R_lastStart 35 = .ok (.goto 20, 3) := by decide +kernel
theorem d_R_lastStart_38 : decode b_R_lastStart 38 = .ok (.iload_n 3, 1) := by decide +kernel
theorem d_R_lastStart_39 : decode b_R_lastStart 39 = .ok (.aload_n 1, 1) := by decide +kernel
theorem d_R_lastStart_40 : decode b_R_lastStart 40 = .ok (.getfield 107, 3) := by decide +kernel
theorem d_R_lastStart_43 : decode b_R_lastStart 43 = .ok (.imul, 1) := by decide +kernel
theorem d_R_lastStart_44 : decode b_R_lastStart 44 = .ok (.iload 6, 2) := by decide +kernel
theorem d_R_lastStart_46 : decode b_R_lastStart 46 = .ok (.iload 4, 2) := by decide +kernel
theorem d_R_lastStart_48 : decode b_R_lastStart 48 = .ok (.imul, 1) := by decide +kernel
theorem d_R_lastStart_49 : decode b_R_lastStart 49 = .ok (.isub, 1) := by decide +kernel
theorem d_R_lastStart_50 : decode b_R_lastStart 50 = .ok (.iload 7, 2) := by decide +kernel
theorem d_R_lastStart_52 : decode b_R_lastStart 52 = .ok (.invokestatic 130, 3) := by decide +kernel
theorem d_R_lastStart_55 : decode b_R_lastStart 55 = .ok (.istore 8, 2) := by decide +kernel
theorem d_R_lastStart_57 : decode b_R_lastStart 57 = .ok (.aload_n 0, 1) := by decide +kernel
theorem d_R_lastStart_58 : decode b_R_lastStart 58 = .ok (.getfield 28, 3) := by decide +kernel
theorem d_R_lastStart_61 : decode b_R_lastStart 61 = .ok (.iload 8, 2) := by decide +kernel
theorem d_R_lastStart_63 : decode b_R_lastStart 63 = .ok (.iconst 1, 1) := by decide +kernel
theorem d_R_lastStart_64 : decode b_R_lastStart 64 = .ok (.iadd, 1) := by decide +kernel
theorem d_R_lastStart_65 : decode b_R_lastStart 65 = .ok (.invokevirtual 51, 3) := by decide +kernel
theorem d_R_lastStart_68 : decode b_R_lastStart 68 = .ok (.iconst 1, 1) := by decide +kernel
theorem d_R_lastStart_69 : decode b_R_lastStart 69 = .ok (.isub, 1) := by decide +kernel
theorem d_R_lastStart_70 : decode b_R_lastStart 70 = .ok (.iload 5, 2) := by decide +kernel
theorem d_R_lastStart_72 : decode b_R_lastStart 72 = .ok (.isub, 1) := by decide +kernel
theorem d_R_lastStart_73 : decode b_R_lastStart 73 = .ok (.ireturn, 1) := by decide +kernel
theorem d_R_hasRoom_0 : decode b_R_hasRoom 0 = .ok (.aload_n 0, 1) := by decide +kernel
theorem d_R_hasRoom_1 : decode b_R_hasRoom 1 = .ok (.getfield 28, 3) := by decide +kernel
theorem d_R_hasRoom_4 : decode b_R_hasRoom 4 = .ok (.iload_n 3, 1) := by decide +kernel
theorem d_R_hasRoom_5 : decode b_R_hasRoom 5 = .ok (.invokevirtual 51, 3) := by decide +kernel
theorem d_R_hasRoom_8 : decode b_R_hasRoom 8 = .ok (.istore 5, 2) := by decide +kernel
theorem d_R_hasRoom_10 : decode b_R_hasRoom 10 = .ok (.iload 5, 2) := by decide +kernel
theorem d_R_hasRoom_12 : decode b_R_hasRoom 12 = .ok (.aload_n 0, 1) := by decide +kernel
theorem d_R_hasRoom_13 : decode b_R_hasRoom 13 = .ok (.getfield 18, 3) := by decide +kernel
theorem d_R_hasRoom_16 : decode b_R_hasRoom 16 = .ok (.getfield 37, 3) := by decide +kernel
theorem d_R_hasRoom_19 : decode b_R_hasRoom 19 = .ok (.iload_n 2, 1) := by decide +kernel
theorem d_R_hasRoom_20 : decode b_R_hasRoom 20 = .ok (.aaload, 1) := by decide +kernel
theorem d_R_hasRoom_21 : decode b_R_hasRoom 21 = .ok (.getfield 61, 3) := by decide +kernel
theorem d_R_hasRoom_24 : decode b_R_hasRoom 24 = .ok (.iadd, 1) := by decide +kernel
theorem d_R_hasRoom_25 : decode b_R_hasRoom 25 = .ok (.istore 6, 2) := by decide +kernel
theorem d_R_hasRoom_27 : decode b_R_hasRoom 27 = .ok (.aload_n 0, 1) := by decide +kernel
theorem d_R_hasRoom_28 : decode b_R_hasRoom 28 = .ok (.aload_n 1, 1) := by decide +kernel
theorem d_R_hasRoom_29 : decode b_R_hasRoom 29 = .ok (.iload_n 2, 1) := by decide +kernel
theorem d_R_hasRoom_30 : decode b_R_hasRoom 30 = .ok (.iload 5, 2) := by decide +kernel
theorem d_R_hasRoom_32 : decode b_R_hasRoom 32 = .ok (.iload 4, 2) := by decide +kernel
theorem d_R_hasRoom_34 : decode b_R_hasRoom 34 = .ok (.invokevirtual 133, 3) := by decide +kernel
theorem d_R_hasRoom_37 : decode b_R_hasRoom 37 = .ok (.ifCond .eq 5, 3) := by decide +kernel
theorem d_R_hasRoom_40 : decode b_R_hasRoom 40 = .ok (.iconst 0, 1) := by decide +kernel
theorem d_R_hasRoom_41 : decode b_R_hasRoom 41 = .ok (.ireturn, 1) := by decide +kernel
theorem d_R_hasRoom_42 : decode b_R_hasRoom 42 = .ok (.iconst 0, 1) := by decide +kernel
theorem d_R_hasRoom_43 : decode b_R_hasRoom 43 = .ok (.istore 7, 2) := by decide +kernel
theorem d_R_hasRoom_45 : decode b_R_hasRoom 45 = .ok (.iload 7, 2) := by decide +kernel
theorem d_R_hasRoom_47 : decode b_R_hasRoom 47 = .ok (.iload 4, 2) := by decide +kernel
theorem d_R_hasRoom_49 : decode b_R_hasRoom 49 = .ok (.if_icmp .ge 144, 3) := by decide +kernel
theorem d_R_hasRoom_52 : decode b_R_hasRoom 52 = .ok (.iload 7, 2) := by decide +kernel
theorem d_R_hasRoom_54 : decode b_R_hasRoom 54 = .ok (.iload_n 2, 1) := by decide +kernel
theorem d_R_hasRoom_55 : decode b_R_hasRoom 55 = .ok (.if_icmp .eq 132, 3) := by decide +kernel
theorem d_R_hasRoom_58 : decode b_R_hasRoom 58 = .ok (.aload_n 0, 1) := by decide +kernel
theorem d_R_hasRoom_59 : decode b_R_hasRoom 59 = .ok (.getfield 28, 3) := by decide +kernel
theorem d_R_hasRoom_62 : decode b_R_hasRoom 62 = .ok (.aload_n 1, 1) := by decide +kernel
theorem d_R_hasRoom_63 : decode b_R_hasRoom 63 = .ok (.getfield 137, 3) := by decide +kernel
theorem d_R_hasRoom_66 : decode b_R_hasRoom 66 = .ok (.iload 7, 2) := by decide +kernel
theorem d_R_hasRoom_68 : decode b_R_hasRoom 68 = .ok (.iaload, 1) := by decide +kernel
theorem d_R_hasRoom_69 : decode b_R_hasRoom 69 = .ok (.invokevirtual 51, 3) := by decide +kernel
theorem d_R_hasRoom_72 : decode b_R_hasRoom 72 = .ok (.istore 8, 2) := by decide +kernel
theorem d_R_hasRoom_74 : decode b_R_hasRoom 74 = .ok (.iload 8, 2) := by decide +kernel
theorem d_R_hasRoom_76 : decode b_R_hasRoom 76 = .ok (.aload_n 0, 1) := by decide +kernel
theorem d_R_hasRoom_77 : decode b_R_hasRoom 77 = .ok (.getfield 18, 3) := by decide +kernel
theorem d_R_hasRoom_80 : decode b_R_hasRoom 80 = .ok (.getfield 37, 3) := by decide +kernel
theorem d_R_hasRoom_83 : decode b_R_hasRoom 83 = .ok (.iload 7, 2) := by decide +kernel
theorem d_R_hasRoom_85 : decode b_R_hasRoom 85 = .ok (.aaload, 1) := by decide +kernel
theorem d_R_hasRoom_86 : decode b_R_hasRoom 86 = .ok (.getfield 61, 3) := by decide +kernel
theorem d_R_hasRoom_89 : decode b_R_hasRoom 89 = .ok (.iadd, 1) := by decide +kernel
theorem d_R_hasRoom_90 : decode b_R_hasRoom 90 = .ok (.istore 9, 2) := by decide +kernel
theorem d_R_hasRoom_92 : decode b_R_hasRoom 92 = .ok (.iload 5, 2) := by decide +kernel
theorem d_R_hasRoom_94 : decode b_R_hasRoom 94 = .ok (.iload 9, 2) := by decide +kernel
theorem d_R_hasRoom_96 : decode b_R_hasRoom 96 = .ok (.if_icmp .ge 14, 3) := by decide +kernel
theorem d_R_hasRoom_99 : decode b_R_hasRoom 99 = .ok (.iload 8, 2) := by decide +kernel
theorem d_R_hasRoom_101 : decode b_R_hasRoom 101 = .ok (.iload 6, 2) := by decide +kernel
theorem d_R_hasRoom_103 : decode b_R_hasRoom 103 = .ok (.if_icmp .ge 7, 3) := by decide +kernel
theorem d_R_hasRoom_106 : decode b_R_hasRoom 106 = .ok (.iconst 1, 1) := by decide +kernel
theorem d_R_hasRoom_107 : decode b_R_hasRoom 107 = .ok (.goto 4, 3) := by decide +kernel
theorem d_R_hasRoom_110 : decode b_R_hasRoom 110 = .ok (.iconst 0, 1) := by decide +kernel
theorem d_R_hasRoom_111 : decode b_R_hasRoom 111 = .ok (.istore 10, 2) := by decide +kernel
theorem d_R_hasRoom_113 : decode b_R_hasRoom 113 = .ok (.aload_n 0, 1) := by decide +kernel
theorem d_R_hasRoom_114 : decode b_R_hasRoom 114 = .ok (.getfield 18, 3) := by decide +kernel
theorem d_R_hasRoom_117 : decode b_R_hasRoom 117 = .ok (.getfield 37, 3) := by decide +kernel
theorem d_R_hasRoom_120 : decode b_R_hasRoom 120 = .ok (.iload 7, 2) := by decide +kernel
theorem d_R_hasRoom_122 : decode b_R_hasRoom 122 = .ok (.aaload, 1) := by decide +kernel
theorem d_R_hasRoom_123 : decode b_R_hasRoom 123 = .ok (.getfield 142, 3) := by decide +kernel
theorem d_R_hasRoom_126 : decode b_R_hasRoom 126 = .ok (.aload_n 0, 1) := by decide +kernel
theorem d_R_hasRoom_127 : decode b_R_hasRoom 127 = .ok (.getfield 18, 3) := by decide +kernel
theorem d_R_hasRoom_130 : decode b_R_hasRoom 130 = .ok (.getfield 37, 3) := by decide +kernel
theorem d_R_hasRoom_133 : decode b_R_hasRoom 133 = .ok (.iload_n 2, 1) := by decide +kernel
theorem d_R_hasRoom_134 : decode b_R_hasRoom 134 = .ok (.aaload, 1) := by decide +kernel
theorem d_R_hasRoom_135 : decode b_R_hasRoom 135 = .ok (.getfield 142, 3) := by decide +kernel
theorem d_R_hasRoom_138 : decode b_R_hasRoom 138 = .ok (.if_icmp .ne 7, 3) := by decide +kernel
theorem d_R_hasRoom_141 : decode b_R_hasRoom 141 = .ok (.iconst 1, 1) := by decide +kernel
theorem d_R_hasRoom_142 : decode b_R_hasRoom 142 = .ok (.goto 4, 3) := by decide +kernel
theorem d_R_hasRoom_145 : decode b_R_hasRoom 145 = .ok (.iconst 0, 1) := by decide +kernel
theorem d_R_hasRoom_146 : decode b_R_hasRoom 146 = .ok (.istore 11, 2) := by decide +kernel
theorem d_R_hasRoom_148 : decode b_R_hasRoom 148 = .ok (.iload 10, 2) := by decide +kernel
theorem d_R_hasRoom_150 : decode b_R_hasRoom 150 = .ok (.ifCond .eq 10, 3) := by decide +kernel
theorem d_R_hasRoom_153 : decode b_R_hasRoom 153 = .ok (.iload 11, 2) := by decide +kernel
theorem d_R_hasRoom_155 : decode b_R_hasRoom 155 = .ok (.ifCond .eq 5, 3) := by decide +kernel
theorem d_R_hasRoom_158 : decode b_R_hasRoom 158 = .ok (.iconst 0, 1) := by decide +kernel
theorem d_R_hasRoom_159 : decode b_R_hasRoom 159 = .ok (.ireturn, 1) := by decide +kernel
theorem d_R_hasRoom_160 : decode b_R_hasRoom 160 = .ok (.iload 10, 2) := by decide +kernel
theorem d_R_hasRoom_162 : decode b_R_hasRoom 162 = .ok (.ifCond .eq 25, 3) := by decide +kernel
theorem d_R_hasRoom_165 : decode b_R_hasRoom 165 = .ok (.iload 8, 2) := by decide +kernel
theorem d_R_hasRoom_167 : decode b_R_hasRoom 167 = .ok (.iload 5, 2) := by decide +kernel
theorem d_R_hasRoom_169 : decode b_R_hasRoom 169 = .ok (.if_icmp .le 18, 3) := by decide +kernel
theorem d_R_hasRoom_172 : decode b_R_hasRoom 172 = .ok (.aload_n 0, 1) := by decide +kernel
theorem d_R_hasRoom_173 : decode b_R_hasRoom 173 = .ok (.aload_n 1, 1) := by decide +kernel
theorem d_R_hasRoom_174 : decode b_R_hasRoom 174 = .ok (.iload_n 2, 1) := by decide +kernel
theorem d_R_hasRoom_175 : decode b_R_hasRoom 175 = .ok (.iload 8, 2) := by decide +kernel
theorem d_R_hasRoom_177 : decode b_R_hasRoom 177 = .ok (.iload 4, 2) := by decide +kernel
theorem d_R_hasRoom_179 : decode b_R_hasRoom 179 = .ok (.invokevirtual 133, 3) := by decide +kernel
theorem d_R_hasRoom_182 : decode b_R_hasRoom 182 = .ok (.ifCond .eq 5, 3) := by decide +kernel
theorem d_R_hasRoom_185 : decode b_R_hasRoom 185 = .ok (.iconst 0, 1) := by decide +kernel
theorem d_R_hasRoom_186 : decode b_R_hasRoom 186 = .ok (.ireturn, 1) := by decide +kernel
theorem d_R_hasRoom_187 : decode b_R_hasRoom 187 = .ok (.iinc 7 1, 3) := by decide +kernel
theorem d_R_hasRoom_190 : decode b_R_hasRoom 190 = .ok (.goto (-145), 3) := by decide +kernel
theorem d_R_hasRoom_193 : decode b_R_hasRoom 193 = .ok (.iconst 1, 1) := by decide +kernel
theorem d_R_hasRoom_194 : decode b_R_hasRoom 194 = .ok (.ireturn, 1) := by decide +kernel
theorem d_R_isCrowded_0 : decode b_R_isCrowded 0 = .ok (.aload_n 0, 1) := by decide +kernel
theorem d_R_isCrowded_1 : decode b_R_isCrowded 1 = .ok (.getfield 18, 3) := by decide +kernel
theorem d_R_isCrowded_4 : decode b_R_isCrowded 4 = .ok (.getfield 37, 3) := by decide +kernel
theorem d_R_isCrowded_7 : decode b_R_isCrowded 7 = .ok (.iload_n 2, 1) := by decide +kernel
theorem d_R_isCrowded_8 : decode b_R_isCrowded 8 = .ok (.aaload, 1) := by decide +kernel
theorem d_R_isCrowded_9 : decode b_R_isCrowded 9 = .ok (.getfield 145, 3) := by decide +kernel
theorem d_R_isCrowded_12 : decode b_R_isCrowded 12 = .ok (.istore 5, 2) := by decide +kernel
theorem d_R_isCrowded_14 : decode b_R_isCrowded 14 = .ok (.iconst 1, 1) := by decide +kernel
theorem d_R_isCrowded_15 : decode b_R_isCrowded 15 = .ok (.istore 6, 2) := by decide +kernel
theorem d_R_isCrowded_17 : decode b_R_isCrowded 17 = .ok (.iconst 0, 1) := by decide +kernel
theorem d_R_isCrowded_18 : decode b_R_isCrowded 18 = .ok (.istore 7, 2) := by decide +kernel
theorem d_R_isCrowded_20 : decode b_R_isCrowded 20 = .ok (.iload 7, 2) := by decide +kernel
theorem d_R_isCrowded_22 : decode b_R_isCrowded 22 = .ok (.iload 4, 2) := by decide +kernel
theorem d_R_isCrowded_24 : decode b_R_isCrowded 24 = .ok (.if_icmp .ge 78, 3) := by decide +kernel
theorem d_R_isCrowded_27 : decode b_R_isCrowded 27 = .ok (.iload 7, 2) := by decide +kernel
theorem d_R_isCrowded_29 : decode b_R_isCrowded 29 = .ok (.iload_n 2, 1) := by decide +kernel
theorem d_R_isCrowded_30 : decode b_R_isCrowded 30 = .ok (.if_icmp .eq 66, 3) := by decide +kernel
theorem d_R_isCrowded_33 : decode b_R_isCrowded 33 = .ok (.aload_n 0, 1) := by decide +kernel
theorem d_R_isCrowded_34 : decode b_R_isCrowded 34 = .ok (.getfield 18, 3) := by decide +kernel
theorem d_R_isCrowded_37 : decode b_R_isCrowded 37 = .ok (.getfield 37, 3) := by decide +kernel
theorem d_R_isCrowded_40 : decode b_R_isCrowded 40 = .ok (.iload 7, 2) := by decide +kernel
theorem d_R_isCrowded_42 : decode b_R_isCrowded 42 = .ok (.aaload, 1) := by decide +kernel
theorem d_R_isCrowded_43 : decode b_R_isCrowded 43 = .ok (.getfield 145, 3) := by decide +kernel
theorem d_R_isCrowded_46 : decode b_R_isCrowded 46 = .ok (.iload 5, 2) := by decide +kernel
theorem d_R_isCrowded_48 : decode b_R_isCrowded 48 = .ok (.if_icmp .ne 48, 3) := by decide +kernel
theorem d_R_isCrowded_51 : decode b_R_isCrowded 51 = .ok (.aload_n 0, 1) := by decide +kernel
theorem d_R_isCrowded_52 : decode b_R_isCrowded 52 = .ok (.getfield 28, 3) := by decide +kernel
theorem d_R_isCrowded_55 : decode b_R_isCrowded 55 = .ok (.aload_n 1, 1) := by decide +kernel
theorem d_R_isCrowded_56 : decode b_R_isCrowded 56 = .ok (.getfield 137, 3) := by decide +kernel
theorem d_R_isCrowded_59 : decode b_R_isCrowded 59 = .ok (.iload 7, 2) := by decide +kernel
theorem d_R_isCrowded_61 : decode b_R_isCrowded 61 = .ok (.iaload, 1) := by decide +kernel
theorem d_R_isCrowded_62 : decode b_R_isCrowded 62 = .ok (.invokevirtual 51, 3) := by decide +kernel
theorem d_R_isCrowded_65 : decode b_R_isCrowded 65 = .ok (.istore 8, 2) := by decide +kernel
theorem d_R_isCrowded_67 : decode b_R_isCrowded 67 = .ok (.iload 8, 2) := by decide +kernel
theorem d_R_isCrowded_69 : decode b_R_isCrowded 69 = .ok (.iload_n 3, 1) := by decide +kernel
theorem d_R_isCrowded_70 : decode b_R_isCrowded 70 = .ok (.if_icmp .gt 26, 3) := by decide +kernel
theorem d_R_isCrowded_73 : decode b_R_isCrowded 73 = .ok (.iload_n 3, 1) := by decide +kernel
theorem d_R_isCrowded_74 : decode b_R_isCrowded 74 = .ok (.iload 8, 2) := by decide +kernel
theorem d_R_isCrowded_76 : decode b_R_isCrowded 76 = .ok (.aload_n 0, 1) := by decide +kernel
theorem d_R_isCrowded_77 : decode b_R_isCrowded 77 = .ok (.getfield 18, 3) := by decide +kernel
theorem d_R_isCrowded_80 : decode b_R_isCrowded 80 = .ok (.getfield 37, 3) := by decide +kernel
theorem d_R_isCrowded_83 : decode b_R_isCrowded 83 = .ok (.iload 7, 2) := by decide +kernel
theorem d_R_isCrowded_85 : decode b_R_isCrowded 85 = .ok (.aaload, 1) := by decide +kernel
theorem d_R_isCrowded_86 : decode b_R_isCrowded 86 = .ok (.getfield 61, 3) := by decide +kernel
theorem d_R_isCrowded_89 : decode b_R_isCrowded 89 = .ok (.iadd, 1) := by decide +kernel
theorem d_R_isCrowded_90 : decode b_R_isCrowded 90 = .ok (.if_icmp .ge 6, 3) := by decide +kernel
theorem d_R_isCrowded_93 : decode b_R_isCrowded 93 = .ok (.iinc 6 1, 3) := by decide +kernel
theorem d_R_isCrowded_96 : decode b_R_isCrowded 96 = .ok (.iinc 7 1, 3) := by decide +kernel
theorem d_R_isCrowded_99 : decode b_R_isCrowded 99 = .ok (.goto (-79), 3) := by decide +kernel
theorem d_R_isCrowded_102 : decode b_R_isCrowded 102 = .ok (.iload 5, 2) := by decide +kernel
theorem d_R_isCrowded_104 : decode b_R_isCrowded 104 = .ok (.iconst 0, 1) := by decide +kernel
theorem d_R_isCrowded_105 : decode b_R_isCrowded 105 = .ok (.iconst 3, 1) := by decide +kernel
theorem d_R_isCrowded_106 : decode b_R_isCrowded 106 = .ok (.invokestatic 148, 3) := by decide +kernel
theorem d_R_isCrowded_109 : decode b_R_isCrowded 109 = .ok (.ifCond .eq 18, 3) := by decide +kernel
theorem d_R_isCrowded_112 : decode b_R_isCrowded 112 = .ok (.iload 6, 2) := by decide +kernel
theorem d_R_isCrowded_114 : decode b_R_isCrowded 114 = .ok (.aload_n 0, 1) := by decide +kernel
theorem d_R_isCrowded_115 : decode b_R_isCrowded 115 = .ok (.getfield 18, 3) := by decide +kernel
theorem d_R_isCrowded_118 : decode b_R_isCrowded 118 = .ok (.getfield 152, 3) := by decide +kernel
theorem d_R_isCrowded_121 : decode b_R_isCrowded 121 = .ok (.iload 5, 2) := by decide +kernel
theorem d_R_isCrowded_123 : decode b_R_isCrowded 123 = .ok (.iaload, 1) := by decide +kernel
theorem d_R_isCrowded_124 : decode b_R_isCrowded 124 = .ok (.if_icmp .le 7, 3) := by decide +kernel
theorem d_R_isCrowded_127 : decode b_R_isCrowded 127 = .ok (.iconst 1, 1) := by decide +kernel
theorem d_R_isCrowded_128 : decode b_R_isCrowded 128 = .ok (.goto 4, 3) := by decide +kernel
theorem d_R_isCrowded_131 : decode b_R_isCrowded 131 = .ok (.iconst 0, 1) := by decide +kernel
theorem d_R_isCrowded_132 : decode b_R_isCrowded 132 = .ok (.ireturn, 1) := by decide +kernel
theorem d_S_init_0 : decode b_S_init 0 = .ok (.aload_n 0, 1) := by decide +kernel
theorem d_S_init_1 : decode b_S_init 1 = .ok (.invokespecial 3, 3) := by decide +kernel
theorem d_S_init_4 : decode b_S_init 4 = .ok (.aload_n 0, 1) := by decide +kernel
theorem d_S_init_5 : decode b_S_init 5 = .ok (.new 9, 3) := by decide +kernel
theorem d_S_init_8 : decode b_S_init 8 = .ok (.dup, 1) := by decide +kernel
theorem d_S_init_9 : decode b_S_init 9 = .ok (.invokespecial 11, 3) := by decide +kernel
theorem d_S_init_12 : decode b_S_init 12 = .ok (.putfield 12, 3) := by decide +kernel
theorem d_S_init_15 : decode b_S_init 15 = .ok (.aload_n 0, 1) := by decide +kernel
theorem d_S_init_16 : decode b_S_init 16 = .ok (.new 9, 3) := by decide +kernel
theorem d_S_init_19 : decode b_S_init 19 = .ok (.dup, 1) := by decide +kernel
theorem d_S_init_20 : decode b_S_init 20 = .ok (.invokespecial 11, 3) := by decide +kernel
theorem d_S_init_23 : decode b_S_init 23 = .ok (.putfield 18, 3) := by decide +kernel
theorem d_S_init_26 : decode b_S_init 26 = .ok (.aload_n 0, 1) := by decide +kernel
theorem d_S_init_27 : decode b_S_init 27 = .ok (.bipush 12, 2) := by decide +kernel
theorem d_S_init_29 : decode b_S_init 29 = .ok (.anewarray 21, 3) := by decide +kernel
theorem d_S_init_32 : decode b_S_init 32 = .ok (.putfield 23, 3) := by decide +kernel
theorem d_S_init_35 : decode b_S_init 35 = .ok (.aload_n 0, 1) := by decide +kernel
theorem d_S_init_36 : decode b_S_init 36 = .ok (.bipush 6, 2) := by decide +kernel
theorem d_S_init_38 : decode b_S_init 38 = .ok (.newarray .int, 2) := by decide +kernel
theorem d_S_init_40 : decode b_S_init 40 = .ok (.putfield 27, 3) := by decide +kernel
theorem d_S_init_43 : decode b_S_init 43 = .ok (.aload_n 0, 1) := by decide +kernel
theorem d_S_init_44 : decode b_S_init 44 = .ok (.bipush 6, 2) := by decide +kernel
theorem d_S_init_46 : decode b_S_init 46 = .ok (.newarray .int, 2) := by decide +kernel
theorem d_S_init_48 : decode b_S_init 48 = .ok (.putfield 31, 3) := by decide +kernel
theorem d_S_init_51 : decode b_S_init 51 = .ok (.aload_n 0, 1) := by decide +kernel
theorem d_S_init_52 : decode b_S_init 52 = .ok (.aload_n 1, 1) := by decide +kernel
theorem d_S_init_53 : decode b_S_init 53 = .ok (.putfield 34, 3) := by decide +kernel
theorem d_S_init_56 : decode b_S_init 56 = .ok (.aload_n 0, 1) := by decide +kernel
theorem d_S_init_57 : decode b_S_init 57 = .ok (.aload_n 2, 1) := by decide +kernel
theorem d_S_init_58 : decode b_S_init 58 = .ok (.putfield 38, 3) := by decide +kernel
theorem d_S_init_61 : decode b_S_init 61 = .ok (.aload_n 0, 1) := by decide +kernel
theorem d_S_init_62 : decode b_S_init 62 = .ok (.aload_n 3, 1) := by decide +kernel
theorem d_S_init_63 : decode b_S_init 63 = .ok (.putfield 42, 3) := by decide +kernel
theorem d_S_init_66 : decode b_S_init 66 = .ok (.iconst 0, 1) := by decide +kernel
theorem d_S_init_67 : decode b_S_init 67 = .ok (.istore 4, 2) := by decide +kernel
theorem d_S_init_69 : decode b_S_init 69 = .ok (.iload 4, 2) := by decide +kernel
theorem d_S_init_71 : decode b_S_init 71 = .ok (.aload_n 0, 1) := by decide +kernel
theorem d_S_init_72 : decode b_S_init 72 = .ok (.getfield 23, 3) := by decide +kernel
theorem d_S_init_75 : decode b_S_init 75 = .ok (.arraylength, 1) := by decide +kernel
theorem d_S_init_76 : decode b_S_init 76 = .ok (.if_icmp .ge 23, 3) := by decide +kernel
theorem d_S_init_79 : decode b_S_init 79 = .ok (.aload_n 0, 1) := by decide +kernel
theorem d_S_init_80 : decode b_S_init 80 = .ok (.getfield 23, 3) := by decide +kernel
theorem d_S_init_83 : decode b_S_init 83 = .ok (.iload 4, 2) := by decide +kernel
theorem d_S_init_85 : decode b_S_init 85 = .ok (.new 21, 3) := by decide +kernel
theorem d_S_init_88 : decode b_S_init 88 = .ok (.dup, 1) := by decide +kernel
theorem d_S_init_89 : decode b_S_init 89 = .ok (.invokespecial 45, 3) := by decide +kernel
theorem d_S_init_92 : decode b_S_init 92 = .ok (.aastore, 1) := by decide +kernel
theorem d_S_init_93 : decode b_S_init 93 = .ok (.iinc 4 1, 3) := by decide +kernel
theorem d_S_init_96 : decode b_S_init 96 = .ok (.goto (-27), 3) := by decide +kernel
theorem d_S_init_99 : decode b_S_init 99 = .ok (.return_, 1) := by decide +kernel
theorem d_S_seek_0 : decode b_S_seek 0 = .ok (.aload_n 0, 1) := by decide +kernel
theorem d_S_seek_1 : decode b_S_seek 1 = .ok (.iload_n 2, 1) := by decide +kernel
theorem d_S_seek_2 : decode b_S_seek 2 = .ok (.putfield 46, 3) := by decide +kernel
theorem d_S_seek_5 : decode b_S_seek 5 = .ok (.aload_n 0, 1) := by decide +kernel
theorem d_S_seek_6 : decode b_S_seek 6 = .ok (.iload_n 1, 1) := by decide +kernel
theorem d_S_seek_7 : decode b_S_seek 7 = .ok (.putfield 50, 3) := by decide +kernel
theorem d_S_seek_10 : decode b_S_seek 10 = .ok (.aload_n 0, 1) := by decide +kernel
theorem d_S_seek_11 : decode b_S_seek 11 = .ok (.iconst 0, 1) := by decide +kernel
theorem d_S_seek_12 : decode b_S_seek 12 = .ok (.putfield 54, 3) := by decide +kernel
theorem d_S_seek_15 : decode b_S_seek 15 = .ok (.aload_n 0, 1) := by decide +kernel
theorem d_S_seek_16 : decode b_S_seek 16 = .ok (.iconst 0, 1) := by decide +kernel
theorem d_S_seek_17 : decode b_S_seek 17 = .ok (.putfield 57, 3) := by decide +kernel
theorem d_S_seek_20 : decode b_S_seek 20 = .ok (.aload_n 0, 1) := by decide +kernel
theorem d_S_seek_21 : decode b_S_seek 21 = .ok (.iconst 0, 1) := by decide +kernel
theorem d_S_seek_22 : decode b_S_seek 22 = .ok (.putfield 60, 3) := by decide +kernel
theorem d_S_seek_25 : decode b_S_seek 25 = .ok (.aload_n 0, 1) := by decide +kernel
theorem d_S_seek_26 : decode b_S_seek 26 = .ok (.iconst 0, 1) := by decide +kernel
theorem d_S_seek_27 : decode b_S_seek 27 = .ok (.invokevirtual 63, 3) := by decide +kernel
theorem d_S_seek_30 : decode b_S_seek 30 = .ok (.return_, 1) := by decide +kernel
theorem d_S_tryStarts_0 : decode b_S_tryStarts 0 = .ok (.iload_n 1, 1) := by decide +kernel
theorem d_S_tryStarts_1 : decode b_S_tryStarts 1 = .ok (.aload_n 0, 1) := by decide +kernel
theorem d_S_tryStarts_2 : decode b_S_tryStarts 2 = .ok (.getfield 34, 3) := by decide +kernel
theorem d_S_tryStarts_5 : decode b_S_tryStarts 5 = .ok (.getfield 67, 3) := by decide +kernel
theorem d_S_tryStarts_8 : decode b_S_tryStarts 8 = .ok (.if_icmp .ge 9, 3) := by decide +kernel
theorem d_S_tryStarts_11 : decode b_S_tryStarts 11 = .ok (.iload_n 1, 1) := by decide +kernel
theorem d_S_tryStarts_12 : decode b_S_tryStarts 12 = .ok (.bipush 6, 2) := by decide +kernel
theorem d_S_tryStarts_14 : decode b_S_tryStarts 14 = .ok (.if_icmp .lt 4, 3) := by decide +kernel
theorem d_S_tryStarts_17 : decode b_S_tryStarts 17 = .ok (.return_, 1) := by decide +kernel
theorem d_S_tryStarts_18 : decode b_S_tryStarts 18 = .ok (.aload_n 0, 1) := by decide +kernel
theorem d_S_tryStarts_19 : decode b_S_tryStarts 19 = .ok (.getfield 34, 3) := by decide +kernel
theorem d_S_tryStarts_22 : decode b_S_tryStarts 22 = .ok (.getfield 72, 3) := by decide +kernel
theorem d_S_tryStarts_25 : decode b_S_tryStarts 25 = .ok (.iload_n 1, 1) := by decide +kernel
theorem d_S_tryStarts_26 : decode b_S_tryStarts 26 = .ok (.aaload, 1) := by decide +kernel
theorem d_S_tryStarts_27 : decode b_S_tryStarts 27 = .ok (.astore_n 2, 1) := by decide +kernel
theorem d_S_tryStarts_28 : decode b_S_tryStarts 28 = .ok (.aload_n 2, 1) := by decide +kernel
theorem d_S_tryStarts_29 : decode b_S_tryStarts 29 = .ok (.getfield 76, 3) := by decide +kernel
theorem d_S_tryStarts_32 : decode b_S_tryStarts 32 = .ok (.ifCond .eq 15, 3) := by decide +kernel
theorem d_S_tryStarts_35 : decode b_S_tryStarts 35 = .ok (.aload_n 0, 1) := by decide +kernel
theorem d_S_tryStarts_36 : decode b_S_tryStarts 36 = .ok (.getfield 42, 3) := by decide +kernel
theorem d_S_tryStarts_39 : decode b_S_tryStarts 39 = .ok (.getfield 81, 3) := by decide +kernel
theorem d_S_tryStarts_42 : decode b_S_tryStarts 42 = .ok (.iload_n 1, 1) := by decide +kernel
theorem d_S_tryStarts_43 : decode b_S_tryStarts 43 = .ok (.iaload, 1) := by decide +kernel
theorem d_S_tryStarts_44 : decode b_S_tryStarts 44 = .ok (.goto 4, 3) := by decide +kernel
theorem d_S_tryStarts_47 : decode b_S_tryStarts 47 = .ok (.iconst 0, 1) := by decide +kernel
theorem d_S_tryStarts_48 : decode b_S_tryStarts 48 = .ok (.istore_n 3, 1) := by decide +kernel
theorem d_S_tryStarts_49 : decode b_S_tryStarts 49 = .ok (.aload_n 2, 1) := by decide +kernel
theorem d_S_tryStarts_50 : decode b_S_tryStarts 50 = .ok (.getfield 76, 3) := by decide +kernel
theorem d_S_tryStarts_53 : decode b_S_tryStarts 53 = .ok (.ifCond .eq 7, 3) := by decide +kernel
theorem d_S_tryStarts_56 : decode b_S_tryStarts 56 = .ok (.iload_n 3, 1) := by decide +kernel
theorem d_S_tryStarts_57 : decode b_S_tryStarts 57 = .ok (.goto 5, 3) := by decide +kernel
theorem d_S_tryStarts_60 : decode b_S_tryStarts 60 = .ok (.bipush 99, 2) := by decide +kernel
theorem d_S_tryStarts_62 : decode b_S_tryStarts 62 = .ok (.istore 4, 2) := by decide +kernel
theorem d_S_tryStarts_64 : decode b_S_tryStarts 64 = .ok (.aload_n 2, 1) := by decide +kernel
theorem d_S_tryStarts_65 : decode b_S_tryStarts 65 = .ok (.getfield 76, 3) := by decide +kernel
theorem d_S_tryStarts_68 : decode b_S_tryStarts 68 = .ok (.ifCond .eq 15, 3) := by decide +kernel
theorem d_S_tryStarts_71 : decode b_S_tryStarts 71 = .ok (.aload_n 0, 1) := by decide +kernel
theorem d_S_tryStarts_72 : decode b_S_tryStarts 72 = .ok (.getfield 42, 3) := by decide +kernel
theorem d_S_tryStarts_75 : decode b_S_tryStarts 75 = .ok (.getfield 84, 3) := by decide +kernel
theorem d_S_tryStarts_78 : decode b_S_tryStarts 78 = .ok (.iload_n 1, 1) := by decide +kernel
theorem d_S_tryStarts_79 : decode b_S_tryStarts 79 = .ok (.iaload, 1) := by decide +kernel
theorem d_S_tryStarts_80 : decode b_S_tryStarts 80 = .ok (.goto 4, 3) := by decide +kernel
theorem d_S_tryStarts_83 : decode b_S_tryStarts 83 = .ok (.iconst 0, 1) := by decide +kernel
theorem d_S_tryStarts_84 : decode b_S_tryStarts 84 = .ok (.istore 5, 2) := by decide +kernel
theorem d_S_tryStarts_86 : decode b_S_tryStarts 86 = .ok (.aload_n 2, 1) := by decide +kernel
theorem d_S_tryStarts_87 : decode b_S_tryStarts 87 = .ok (.getfield 76, 3) := by decide +kernel
theorem d_S_tryStarts_90 : decode b_S_tryStarts 90 = .ok (.ifCond .eq 8, 3) := by decide +kernel
theorem d_S_tryStarts_93 : decode b_S_tryStarts 93 = .ok (.iload 5, 2) := by decide +kernel
theorem d_S_tryStarts_95 : decode b_S_tryStarts 95 = .ok (.goto 15, 3) := by decide +kernel
theorem d_S_tryStarts_98 : decode b_S_tryStarts 98 = .ok (.aload_n 2, 1) := by decide +kernel
theorem d_S_tryStarts_99 : decode b_S_tryStarts 99 = .ok (.getfield 87, 3) := by decide +kernel
theorem d_S_tryStarts_102 : decode b_S_tryStarts 102 = .ok (.ifCond .eq 7, 3) := by decide +kernel
theorem d_S_tryStarts_105 : decode b_S_tryStarts 105 = .ok (.iconst 1, 1) := by decide +kernel
theorem d_S_tryStarts_106 : decode b_S_tryStarts 106 = .ok (.goto 4, 3) := by decide +kernel
theorem d_S_tryStarts_109 : decode b_S_tryStarts 109 = .ok (.iconst 0, 1) := by decide +kernel
theorem d_S_tryStarts_110 : decode b_S_tryStarts 110 = .ok (.istore 6, 2) := by decide +kernel
theorem d_S_tryStarts_112 : decode b_S_tryStarts 112 = .ok (.iload 5, 2) := by decide +kernel
theorem d_S_tryStarts_114 : decode b_S_tryStarts 114 = .ok (.istore 7, 2) := by decide +kernel
theorem d_S_tryStarts_116 : decode b_S_tryStarts 116 = .ok (.iload 7, 2) := by decide +kernel
theorem d_S_tryStarts_118 : decode b_S_tryStarts 118 = .ok (.iload 6, 2) := by decide +kernel
theorem d_S_tryStarts_120 : decode b_S_tryStarts 120 = .ok (.if_icmp .gt 35, 3) := by decide +kernel
theorem d_S_tryStarts_123 : decode b_S_tryStarts 123 = .ok (.aload_n 0, 1) := by decide +kernel
theorem d_S_tryStarts_124 : decode b_S_tryStarts 124 = .ok (.getfield 38, 3) := by decide +kernel
theorem d_S_tryStarts_127 : decode b_S_tryStarts 127 = .ok (.aload_n 0, 1) := by decide +kernel
theorem d_S_tryStarts_128 : decode b_S_tryStarts 128 = .ok (.getfield 23, 3) := by decide +kernel
theorem d_S_tryStarts_131 : decode b_S_tryStarts 131 = .ok (.iload_n 1, 1) := by decide +kernel
theorem d_S_tryStarts_132 : decode b_S_tryStarts 132 = .ok (.iconst 2, 1) := by decide +kernel
theorem d_S_tryStarts_133 : decode b_S_tryStarts 133 = .ok (.imul, 1) := by decide +kernel
theorem d_S_tryStarts_134 : decode b_S_tryStarts 134 = .ok (.iload 7, 2) := by decide +kernel
theorem d_S_tryStarts_136 : decode b_S_tryStarts 136 = .ok (.iadd, 1) := by decide +kernel
theorem d_S_tryStarts_137 : decode b_S_tryStarts 137 = .ok (.aaload, 1) := by decide +kernel
theorem d_S_tryStarts_138 : decode b_S_tryStarts 138 = .ok (.aload_n 0, 1) := by decide +kernel
theorem d_S_tryStarts_139 : decode b_S_tryStarts 139 = .ok (.getfield 12, 3) := by decide +kernel
theorem d_S_tryStarts_142 : decode b_S_tryStarts 142 = .ok (.iload_n 1, 1) := by decide +kernel
theorem d_S_tryStarts_143 : decode b_S_tryStarts 143 = .ok (.iload 7, 2) := by decide +kernel
theorem d_S_tryStarts_145 : decode b_S_tryStarts 145 = .ok (.iload_n 1, 1) := by decide +kernel
theorem d_S_tryStarts_146 : decode b_S_tryStarts 146 = .ok (.invokevirtual 90, 3) := by decide +kernel
theorem d_S_tryStarts_149 : decode b_S_tryStarts 149 = .ok (.iinc 7 1, 3) := by decide +kernel
theorem d_S_tryStarts_152 : decode b_S_tryStarts 152 = .ok (.goto (-36), 3) := by decide +kernel
theorem d_S_tryStarts_155 : decode b_S_tryStarts 155 = .ok (.iload_n 3, 1) := by decide +kernel
theorem d_S_tryStarts_156 : decode b_S_tryStarts 156 = .ok (.istore 7, 2) := by decide +kernel
theorem d_S_tryStarts_158 : decode b_S_tryStarts 158 = .ok (.iload 7, 2) := by decide +kernel
theorem d_S_tryStarts_160 : decode b_S_tryStarts 160 = .ok (.iload 4, 2) := by decide +kernel
theorem d_S_tryStarts_162 : decode b_S_tryStarts 162 = .ok (.if_icmp .gt 49, 3) := by decide +kernel
theorem d_S_tryStarts_165 : decode b_S_tryStarts 165 = .ok (.aload_n 0, 1) := by decide +kernel
theorem d_S_tryStarts_166 : decode b_S_tryStarts 166 = .ok (.getfield 57, 3) := by decide +kernel
theorem d_S_tryStarts_169 : decode b_S_tryStarts 169 = .ok (.ifCond .ne 42, 3) := by decide +kernel
theorem d_S_tryStarts_172 : decode b_S_tryStarts 172 = .ok (.iload 5, 2) := by decide +kernel
theorem d_S_tryStarts_174 : decode b_S_tryStarts 174 = .ok (.istore 8, 2) := by decide +kernel
theorem d_S_tryStarts_176 : decode b_S_tryStarts 176 = .ok (.iload 8, 2) := by decide +kernel
theorem d_S_tryStarts_178 : decode b_S_tryStarts 178 = .ok (.iload 6, 2) := by decide +kernel
theorem d_S_tryStarts_180 : decode b_S_tryStarts 180 = .ok (.if_icmp .gt 25, 3) := by decide +kernel
theorem d_S_tryStarts_183 : decode b_S_tryStarts 183 = .ok (.aload_n 0, 1) := by decide +kernel
theorem d_S_tryStarts_184 : decode b_S_tryStarts 184 = .ok (.getfield 57, 3) := by decide +kernel
theorem d_S_tryStarts_187 : decode b_S_tryStarts 187 = .ok (.ifCond .ne 18, 3) := by decide +kernel
theorem d_S_tryStarts_190 : decode b_S_tryStarts 190 = .ok (.aload_n 0, 1) := by decide +kernel
theorem d_S_tryStarts_191 : decode b_S_tryStarts 191 = .ok (.iload_n 1, 1) := by decide +kernel
theorem d_S_tryStarts_192 : decode b_S_tryStarts 192 = .ok (.iload 7, 2) := by decide +kernel
theorem d_S_tryStarts_194 : decode b_S_tryStarts 194 = .ok (.iload 8, 2) := by decide +kernel
theorem d_S_tryStarts_196 : decode b_S_tryStarts 196 = .ok (.invokevirtual 96, 3) := by decide +kernel
theorem d_S_tryStarts_199 : decode b_S_tryStarts 199 = .ok (.iinc 8 1, 3) := by decide +kernel
theorem d_S_tryStarts_202 : decode b_S_tryStarts 202 = .ok (.goto (-26), 3) := by decide +kernel
theorem d_S_tryStarts_205 : decode b_S_tryStarts 205 = .ok (.iinc 7 1, 3) := by decide +kernel
theorem d_S_tryStarts_208 : decode b_S_tryStarts 208 = .ok (.goto (-50), 3) := by decide +kernel
theorem d_S_tryStarts_211 : decode b_S_tryStarts 211 = .ok (.return_, 1) := by decide +kernel
theorem d_S_tryOne_0 : decode b_S_tryOne 0 = .ok (.aload_n 0, 1) := by decide +kernel
theorem d_S_tryOne_1 : decode b_S_tryOne 1 = .ok (.getfield 54, 3) := by decide +kernel
theorem d_S_tryOne_4 : decode b_S_tryOne 4 = .ok (.aload_n 0, 1) := by decide +kernel
theorem d_S_tryOne_5 : decode b_S_tryOne 5 = .ok (.getfield 50, 3) := by decide +kernel
theorem d_S_tryOne_8 : decode b_S_tryOne 8 = .ok (.if_icmp .lt 9, 3) := by decide +kernel
theorem d_S_tryOne_11 : decode b_S_tryOne 11 = .ok (.aload_n 0, 1) := by decide +kernel
theorem d_S_tryOne_12 : decode b_S_tryOne 12 = .ok (.iconst 1, 1) := by decide +kernel
theorem d_S_tryOne_13 : decode b_S_tryOne 13 = .ok (.putfield 57, 3) := by decide +kernel
theorem d_S_tryOne_16 : decode b_S_tryOne 16 = .ok (.return_, 1) := by decide +kernel
theorem d_S_tryOne_17 : decode b_S_tryOne 17 = .ok (.aload_n 0, 1) := by decide +kernel
theorem d_S_tryOne_18 : decode b_S_tryOne 18 = .ok (.dup, 1) := by decide +kernel
theorem d_S_tryOne_19 : decode b_S_tryOne 19 = .ok (.getfield 54, 3) := by decide +kernel
theorem d_S_tryOne_22 : decode b_S_tryOne 22 = .ok (.iconst 1, 1) := by decide +kernel
theorem d_S_tryOne_23 : decode b_S_tryOne 23 = .ok (.iadd, 1) := by decide +kernel
theorem d_S_tryOne_24 : decode b_S_tryOne 24 = .ok (.putfield 54, 3) := by decide +kernel
theorem d_S_tryOne_27 : decode b_S_tryOne 27 = .ok (.aload_n 0, 1) := by decide +kernel
theorem d_S_tryOne_28 : decode b_S_tryOne 28 = .ok (.getfield 34, 3) := by decide +kernel
theorem d_S_tryOne_31 : decode b_S_tryOne 31 = .ok (.iload_n 1, 1) := by decide +kernel
theorem d_S_tryOne_32 : decode b_S_tryOne 32 = .ok (.iload_n 2, 1) := by decide +kernel
theorem d_S_tryOne_33 : decode b_S_tryOne 33 = .ok (.invokevirtual 100, 3) := by decide +kernel
theorem d_S_tryOne_36 : decode b_S_tryOne 36 = .ok (.iload_n 1, 1) := by decide +kernel
theorem d_S_tryOne_37 : decode b_S_tryOne 37 = .ok (.ifCond .le 14, 3) := by decide +kernel
theorem d_S_tryOne_40 : decode b_S_tryOne 40 = .ok (.aload_n 0, 1) := by decide +kernel
theorem d_S_tryOne_41 : decode b_S_tryOne 41 = .ok (.getfield 27, 3) := by decide +kernel
theorem d_S_tryOne_44 : decode b_S_tryOne 44 = .ok (.iload_n 1, 1) := by decide +kernel
theorem d_S_tryOne_45 : decode b_S_tryOne 45 = .ok (.iconst 1, 1) := by decide +kernel
theorem d_S_tryOne_46 : decode b_S_tryOne 46 = .ok (.isub, 1) := by decide +kernel
theorem d_S_tryOne_47 : decode b_S_tryOne 47 = .ok (.iaload, 1) := by decide +kernel
theorem d_S_tryOne_48 : decode b_S_tryOne 48 = .ok (.goto 4, 3) := by decide +kernel
theorem d_S_tryOne_51 : decode b_S_tryOne 51 = .ok (.iconst 0, 1) := by decide +kernel
theorem d_S_tryOne_52 : decode b_S_tryOne 52 = .ok (.invokestatic 104, 3) := by decide +kernel
theorem d_S_tryOne_55 : decode b_S_tryOne 55 = .ok (.istore 4, 2) := by decide +kernel
theorem d_S_tryOne_57 : decode b_S_tryOne 57 = .ok (.iload_n 1, 1) := by decide +kernel
theorem d_S_tryOne_58 : decode b_S_tryOne 58 = .ok (.ifCond .le 14, 3) := by decide +kernel
theorem d_S_tryOne_61 : decode b_S_tryOne 61 = .ok (.aload_n 0, 1) := by decide +kernel
theorem d_S_tryOne_62 : decode b_S_tryOne 62 = .ok (.getfield 31, 3) := by decide +kernel
theorem d_S_tryOne_65 : decode b_S_tryOne 65 = .ok (.iload_n 1, 1) := by decide +kernel
theorem d_S_tryOne_66 : decode b_S_tryOne 66 = .ok (.iconst 1, 1) := by decide +kernel
theorem d_S_tryOne_67 : decode b_S_tryOne 67 = .ok (.isub, 1) := by decide +kernel
theorem d_S_tryOne_68 : decode b_S_tryOne 68 = .ok (.iaload, 1) := by decide +kernel
theorem d_S_tryOne_69 : decode b_S_tryOne 69 = .ok (.goto 4, 3) := by decide +kernel
theorem d_S_tryOne_72 : decode b_S_tryOne 72 = .ok (.iconst 0, 1) := by decide +kernel
theorem d_S_tryOne_73 : decode b_S_tryOne 73 = .ok (.aload_n 0, 1) := by decide +kernel
theorem d_S_tryOne_74 : decode b_S_tryOne 74 = .ok (.iload_n 1, 1) := by decide +kernel
theorem d_S_tryOne_75 : decode b_S_tryOne 75 = .ok (.iload_n 2, 1) := by decide +kernel
theorem d_S_tryOne_76 : decode b_S_tryOne 76 = .ok (.iload_n 3, 1) := by decide +kernel
theorem d_S_tryOne_77 : decode b_S_tryOne 77 = .ok (.invokevirtual 109, 3) := by decide +kernel
theorem d_S_tryOne_80 : decode b_S_tryOne 80 = .ok (.ifCond .eq 7, 3) := by decide +kernel
theorem d_S_tryOne_83 : decode b_S_tryOne 83 = .ok (.iconst 1, 1) := by decide +kernel
theorem d_S_tryOne_84 : decode b_S_tryOne 84 = .ok (.goto 4, 3) := by decide +kernel
theorem d_S_tryOne_87 : decode b_S_tryOne 87 = .ok (.iconst 0, 1) := by decide +kernel
theorem d_S_tryOne_88 : decode b_S_tryOne 88 = .ok (.iadd, 1) := by decide +kernel
theorem d_S_tryOne_89 : decode b_S_tryOne 89 = .ok (.istore 5, 2) := by decide +kernel
theorem d_S_tryOne_91 : decode b_S_tryOne 91 = .ok (.aload_n 0, 1) := by decide +kernel
theorem d_S_tryOne_92 : decode b_S_tryOne 92 = .ok (.iload 4, 2) := by decide +kernel
theorem d_S_tryOne_94 : decode b_S_tryOne 94 = .ok (.iload 5, 2) := by decide +kernel
theorem d_S_tryOne_96 : decode b_S_tryOne 96 = .ok (.invokevirtual 113, 3) := by decide +kernel
theorem d_S_tryOne_99 : decode b_S_tryOne 99 = .ok (.ifCond .eq 13, 3) := by decide +kernel
theorem d_S_tryOne_102 : decode b_S_tryOne 102 = .ok (.aload_n 0, 1) := by decide +kernel
theorem d_S_tryOne_103 : decode b_S_tryOne 103 = .ok (.iload_n 1, 1) := by decide +kernel
theorem d_S_tryOne_104 : decode b_S_tryOne 104 = .ok (.iload_n 2, 1) := by decide +kernel
theorem d_S_tryOne_105 : decode b_S_tryOne 105 = .ok (.iload_n 3, 1) := by decide +kernel
theorem d_S_tryOne_106 : decode b_S_tryOne 106 = .ok (.invokevirtual 117, 3) := by decide +kernel
theorem d_S_tryOne_109 : decode b_S_tryOne 109 = .ok (.ifCond .ne 4, 3) := by decide +kernel
theorem d_S_tryOne_112 : decode b_S_tryOne 112 = .ok (.return_, 1) := by decide +kernel
theorem d_S_tryOne_113 : decode b_S_tryOne 113 = .ok (.aload_n 0, 1) := by decide +kernel
theorem d_S_tryOne_114 : decode b_S_tryOne 114 = .ok (.getfield 12, 3) := by decide +kernel
theorem d_S_tryOne_117 : decode b_S_tryOne 117 = .ok (.iload_n 1, 1) := by decide +kernel
theorem d_S_tryOne_118 : decode b_S_tryOne 118 = .ok (.iload_n 2, 1) := by decide +kernel
theorem d_S_tryOne_119 : decode b_S_tryOne 119 = .ok (.iload_n 3, 1) := by decide +kernel
theorem d_S_tryOne_120 : decode b_S_tryOne 120 = .ok (.invokevirtual 120, 3) := by decide +kernel
theorem d_S_tryOne_123 : decode b_S_tryOne 123 = .ok (.aload_n 0, 1) := by decide +kernel
theorem d_S_tryOne_124 : decode b_S_tryOne 124 = .ok (.getfield 27, 3) := by decide +kernel
theorem d_S_tryOne_127 : decode b_S_tryOne 127 = .ok (.iload_n 1, 1) := by decide +kernel
theorem d_S_tryOne_128 : decode b_S_tryOne 128 = .ok (.iload 4, 2) := by decide +kernel
theorem d_S_tryOne_130 : decode b_S_tryOne 130 = .ok (.iastore, 1) := by decide +kernel
theorem d_S_tryOne_131 : decode b_S_tryOne 131 = .ok (.aload_n 0, 1) := by decide +kernel
theorem d_S_tryOne_132 : decode b_S_tryOne 132 = .ok (.getfield 31, 3) := by decide +kernel
theorem d_S_tryOne_135 : decode b_S_tryOne 135 = .ok (.iload_n 1, 1) := by decide +kernel
theorem d_S_tryOne_136 : decode b_S_tryOne 136 = .ok (.iload 5, 2) := by decide +kernel
theorem d_S_tryOne_138 : decode b_S_tryOne 138 = .ok (.iastore, 1) := by decide +kernel
theorem d_S_tryOne_139 : decode b_S_tryOne 139 = .ok (.iload_n 1, 1) := by decide +kernel
theorem d_S_tryOne_140 : decode b_S_tryOne 140 = .ok (.aload_n 0, 1) := by decide +kernel
theorem d_S_tryOne_141 : decode b_S_tryOne 141 = .ok (.getfield 34, 3) := by decide +kernel
theorem d_S_tryOne_144 : decode b_S_tryOne 144 = .ok (.getfield 67, 3) := by decide +kernel
theorem d_S_tryOne_147 : decode b_S_tryOne 147 = .ok (.iconst 1, 1) := by decide +kernel
theorem d_S_tryOne_148 : decode b_S_tryOne 148 = .ok (.isub, 1) := by decide +kernel
theorem d_S_tryOne_149 : decode b_S_tryOne 149 = .ok (.if_icmp .ne 11, 3) := by decide +kernel
theorem d_S_tryOne_152 : decode b_S_tryOne 152 = .ok (.aload_n 0, 1) := by decide +kernel
theorem d_S_tryOne_153 : decode b_S_tryOne 153 = .ok (.iload_n 1, 1) := by decide +kernel
theorem d_S_tryOne_154 : decode b_S_tryOne 154 = .ok (.invokevirtual 123, 3) := by decide +kernel
theorem d_S_tryOne_157 : decode b_S_tryOne 157 = .ok (.goto 10, 3) := by decide +kernel
theorem d_S_tryOne_160 : decode b_S_tryOne 160 = .ok (.aload_n 0, 1) := by decide +kernel
theorem d_S_tryOne_161 : decode b_S_tryOne 161 = .ok (.iload_n 1, 1) := by decide +kernel
theorem d_S_tryOne_162 : decode b_S_tryOne 162 = .ok (.iconst 1, 1) := by decide +kernel
theorem d_S_tryOne_163 : decode b_S_tryOne 163 = .ok (.iadd, 1) := by decide +kernel
theorem d_S_tryOne_164 : decode b_S_tryOne 164 = .ok (.invokevirtual 63, 3) := by decide +kernel
theorem d_S_tryOne_167 : decode b_S_tryOne 167 = .ok (.return_, 1) := by decide +kernel
theorem d_S_isMove_0 : decode b_S_isMove 0 = .ok (.aload_n 0, 1) := by decide +kernel
theorem d_S_isMove_1 : decode b_S_isMove 1 = .ok (.getfield 46, 3) := by decide +kernel
theorem d_S_isMove_4 : decode b_S_isMove 4 = .ok (.ifCond .eq 20, 3) := by decide +kernel
theorem d_S_isMove_7 : decode b_S_isMove 7 = .ok (.aload_n 0, 1) := by decide +kernel
theorem d_S_isMove_8 : decode b_S_isMove 8 = .ok (.getfield 42, 3) := by decide +kernel
theorem d_S_isMove_11 : decode b_S_isMove 11 = .ok (.iload_n 1, 1) := by decide +kernel
theorem d_S_isMove_12 : decode b_S_isMove 12 = .ok (.iload_n 2, 1) := by decide +kernel
theorem d_S_isMove_13 : decode b_S_isMove 13 = .ok (.iload_n 3, 1) := by decide +kernel
theorem d_S_isMove_14 : decode b_S_isMove 14 = .ok (.invokevirtual 126, 3) := by decide +kernel
theorem d_S_isMove_17 : decode b_S_isMove 17 = .ok (.ifCond .eq 7, 3) := by decide +kernel
theorem d_S_isMove_20 : decode b_S_isMove 20 = .ok (.iconst 1, 1) := by decide +kernel
theorem d_S_isMove_21 : decode b_S_isMove 21 = .ok (.goto 4, 3) := by decide +kernel
theorem d_S_isMove_24 : decode b_S_isMove 24 = .ok (.iconst 0, 1) := by decide +kernel
theorem d_S_isMove_25 : decode b_S_isMove 25 = .ok (.ireturn, 1) := by decide +kernel
theorem d_S_isBetter_0 : decode b_S_isBetter 0 = .ok (.aload_n 0, 1) := by decide +kernel
theorem d_S_isBetter_1 : decode b_S_isBetter 1 = .ok (.getfield 60, 3) := by decide +kernel
theorem d_S_isBetter_4 : decode b_S_isBetter 4 = .ok (.ifCond .eq 27, 3) := by decide +kernel
theorem d_S_isBetter_7 : decode b_S_isBetter 7 = .ok (.iload_n 2, 1) := by decide +kernel
theorem d_S_isBetter_8 : decode b_S_isBetter 8 = .ok (.aload_n 0, 1) := by decide +kernel
theorem d_S_isBetter_9 : decode b_S_isBetter 9 = .ok (.getfield 129, 3) := by decide +kernel
theorem d_S_isBetter_12 : decode b_S_isBetter 12 = .ok (.if_icmp .lt 19, 3) := by decide +kernel
theorem d_S_isBetter_15 : decode b_S_isBetter 15 = .ok (.iload_n 2, 1) := by decide +kernel
theorem d_S_isBetter_16 : decode b_S_isBetter 16 = .ok (.aload_n 0, 1) := by decide +kernel
theorem d_S_isBetter_17 : decode b_S_isBetter 17 = .ok (.getfield 129, 3) := by decide +kernel
theorem d_S_isBetter_20 : decode b_S_isBetter 20 = .ok (.if_icmp .ne 15, 3) := by decide +kernel
theorem d_S_isBetter_23 : decode b_S_isBetter 23 = .ok (.iload_n 1, 1) := by decide +kernel
theorem d_S_isBetter_24 : decode b_S_isBetter 24 = .ok (.aload_n 0, 1) := by decide +kernel
theorem d_S_isBetter_25 : decode b_S_isBetter 25 = .ok (.getfield 132, 3) := by decide +kernel
theorem d_S_isBetter_28 : decode b_S_isBetter 28 = .ok (.if_icmp .ge 7, 3) := by decide +kernel
theorem d_S_isBetter_31 : decode b_S_isBetter 31 = .ok (.iconst 1, 1) := by decide +kernel
theorem d_S_isBetter_32 : decode b_S_isBetter 32 = .ok (.goto 4, 3) := by decide +kernel
theorem d_S_isBetter_35 : decode b_S_isBetter 35 = .ok (.iconst 0, 1) := by decide +kernel
theorem d_S_isBetter_36 : decode b_S_isBetter 36 = .ok (.ireturn, 1) := by decide +kernel
theorem d_S_keepsRules_0 : decode b_S_keepsRules 0 = .ok (.aload_n 0, 1) := by decide +kernel
theorem d_S_keepsRules_1 : decode b_S_keepsRules 1 = .ok (.getfield 34, 3) := by decide +kernel
theorem d_S_keepsRules_4 : decode b_S_keepsRules 4 = .ok (.getfield 135, 3) := by decide +kernel
theorem d_S_keepsRules_7 : decode b_S_keepsRules 7 = .ok (.iload_n 2, 1) := by decide +kernel
theorem d_S_keepsRules_8 : decode b_S_keepsRules 8 = .ok (.invokevirtual 139, 3) := by decide +kernel
theorem d_S_keepsRules_11 : decode b_S_keepsRules 11 = .ok (.ifCond .eq 51, 3) := by decide +kernel
theorem d_S_keepsRules_14 : decode b_S_keepsRules 14 = .ok (.aload_n 0, 1) := by decide +kernel
theorem d_S_keepsRules_15 : decode b_S_keepsRules 15 = .ok (.getfield 23, 3) := by decide +kernel
theorem d_S_keepsRules_18 : decode b_S_keepsRules 18 = .ok (.iload_n 1, 1) := by decide +kernel
theorem d_S_keepsRules_19 : decode b_S_keepsRules 19 = .ok (.iconst 2, 1) := by decide +kernel
theorem d_S_keepsRules_20 : decode b_S_keepsRules 20 = .ok (.imul, 1) := by decide +kernel
theorem d_S_keepsRules_21 : decode b_S_keepsRules 21 = .ok (.iload_n 3, 1) := by decide +kernel
theorem d_S_keepsRules_22 : decode b_S_keepsRules 22 = .ok (.iadd, 1) := by decide +kernel
theorem d_S_keepsRules_23 : decode b_S_keepsRules 23 = .ok (.aaload, 1) := by decide +kernel
theorem d_S_keepsRules_24 : decode b_S_keepsRules 24 = .ok (.aload_n 0, 1) := by decide +kernel
theorem d_S_keepsRules_25 : decode b_S_keepsRules 25 = .ok (.getfield 34, 3) := by decide +kernel
theorem d_S_keepsRules_28 : decode b_S_keepsRules 28 = .ok (.getfield 135, 3) := by decide +kernel
theorem d_S_keepsRules_31 : decode b_S_keepsRules 31 = .ok (.iload_n 2, 1) := by decide +kernel
theorem d_S_keepsRules_32 : decode b_S_keepsRules 32 = .ok (.invokevirtual 145, 3) := by decide +kernel
theorem d_S_keepsRules_35 : decode b_S_keepsRules 35 = .ok (.invokevirtual 149, 3) := by decide +kernel
theorem d_S_keepsRules_38 : decode b_S_keepsRules 38 = .ok (.ifCond .eq 24, 3) := by decide +kernel
theorem d_S_keepsRules_41 : decode b_S_keepsRules 41 = .ok (.aload_n 0, 1) := by decide +kernel
theorem d_S_keepsRules_42 : decode b_S_keepsRules 42 = .ok (.getfield 38, 3) := by decide +kernel
theorem d_S_keepsRules_45 : decode b_S_keepsRules 45 = .ok (.aload_n 0, 1) := by decide +kernel
theorem d_S_keepsRules_46 : decode b_S_keepsRules 46 = .ok (.getfield 12, 3) := by decide +kernel
theorem d_S_keepsRules_49 : decode b_S_keepsRules 49 = .ok (.iload_n 1, 1) := by decide +kernel
theorem d_S_keepsRules_50 : decode b_S_keepsRules 50 = .ok (.iload_n 2, 1) := by decide +kernel
theorem d_S_keepsRules_51 : decode b_S_keepsRules 51 = .ok (.iload_n 1, 1) := by decide +kernel
theorem d_S_keepsRules_52 : decode b_S_keepsRules 52 = .ok (.invokevirtual 152, 3) := by decide +kernel
theorem d_S_keepsRules_55 : decode b_S_keepsRules 55 = .ok (.ifCond .eq 7, 3) := by decide +kernel
theorem d_S_keepsRules_58 : decode b_S_keepsRules 58 = .ok (.iconst 1, 1) := by decide +kernel
theorem d_S_keepsRules_59 : decode b_S_keepsRules 59 = .ok (.goto 4, 3) := by decide +kernel
theorem d_S_keepsRules_62 : decode b_S_keepsRules 62 = .ok (.iconst 0, 1) := by decide +kernel
theorem d_S_keepsRules_63 : decode b_S_keepsRules 63 = .ok (.ireturn, 1) := by decide +kernel
theorem d_S_keepAsBest_0 : decode b_S_keepAsBest 0 = .ok (.aload_n 0, 1) := by decide +kernel
theorem d_S_keepAsBest_1 : decode b_S_keepAsBest 1 = .ok (.iconst 1, 1) := by decide +kernel
theorem d_S_keepAsBest_2 : decode b_S_keepAsBest 2 = .ok (.putfield 60, 3) := by decide +kernel
theorem d_S_keepAsBest_5 : decode b_S_keepAsBest 5 = .ok (.aload_n 0, 1) := by decide +kernel
theorem d_S_keepAsBest_6 : decode b_S_keepAsBest 6 = .ok (.aload_n 0, 1) := by decide +kernel
theorem d_S_keepAsBest_7 : decode b_S_keepAsBest 7 = .ok (.getfield 27, 3) := by decide +kernel
theorem d_S_keepAsBest_10 : decode b_S_keepAsBest 10 = .ok (.iload_n 1, 1) := by decide +kernel
theorem d_S_keepAsBest_11 : decode b_S_keepAsBest 11 = .ok (.iaload, 1) := by decide +kernel
theorem d_S_keepAsBest_12 : decode b_S_keepAsBest 12 = .ok (.putfield 132, 3) := by decide +kernel
theorem d_S_keepAsBest_15 : decode b_S_keepAsBest 15 = .ok (.aload_n 0, 1) := by decide +kernel
theorem d_S_keepAsBest_16 : decode b_S_keepAsBest 16 = .ok (.aload_n 0, 1) := by decide +kernel
theorem d_S_keepAsBest_17 : decode b_S_keepAsBest 17 = .ok (.getfield 31, 3) := by decide +kernel
theorem d_S_keepAsBest_20 : decode b_S_keepAsBest 20 = .ok (.iload_n 1, 1) := by decide +kernel
theorem d_S_keepAsBest_21 : decode b_S_keepAsBest 21 = .ok (.iaload, 1) := by decide +kernel
theorem d_S_keepAsBest_22 : decode b_S_keepAsBest 22 = .ok (.putfield 129, 3) := by decide +kernel
theorem d_S_keepAsBest_25 : decode b_S_keepAsBest 25 = .ok (.iconst 0, 1) := by decide +kernel
theorem d_S_keepAsBest_26 : decode b_S_keepAsBest 26 = .ok (.istore_n 2, 1) := by decide +kernel
theorem d_S_keepAsBest_27 : decode b_S_keepAsBest 27 = .ok (.iload_n 2, 1) := by decide +kernel
theorem d_S_keepAsBest_28 : decode b_S_keepAsBest 28 = .ok (.iload_n 1, 1) := by decide +kernel
theorem d_S_keepAsBest_29 : decode b_S_keepAsBest 29 = .ok (.if_icmp .gt 35, 3) := by decide +kernel
theorem d_S_keepAsBest_32 : decode b_S_keepAsBest 32 = .ok (.aload_n 0, 1) := by decide +kernel
theorem d_S_keepAsBest_33 : decode b_S_keepAsBest 33 = .ok (.getfield 18, 3) := by decide +kernel
theorem d_S_keepAsBest_36 : decode b_S_keepAsBest 36 = .ok (.iload_n 2, 1) := by decide +kernel
theorem d_S_keepAsBest_37 : decode b_S_keepAsBest 37 = .ok (.aload_n 0, 1) := by decide +kernel
theorem d_S_keepAsBest_38 : decode b_S_keepAsBest 38 = .ok (.getfield 12, 3) := by decide +kernel
theorem d_S_keepAsBest_41 : decode b_S_keepAsBest 41 = .ok (.getfield 81, 3) := by decide +kernel
theorem d_S_keepAsBest_44 : decode b_S_keepAsBest 44 = .ok (.iload_n 2, 1) := by decide +kernel
theorem d_S_keepAsBest_45 : decode b_S_keepAsBest 45 = .ok (.iaload, 1) := by decide +kernel
theorem d_S_keepAsBest_46 : decode b_S_keepAsBest 46 = .ok (.aload_n 0, 1) := by decide +kernel
theorem d_S_keepAsBest_47 : decode b_S_keepAsBest 47 = .ok (.getfield 12, 3) := by decide +kernel
theorem d_S_keepAsBest_50 : decode b_S_keepAsBest 50 = .ok (.getfield 84, 3) := by decide +kernel
theorem d_S_keepAsBest_53 : decode b_S_keepAsBest 53 = .ok (.iload_n 2, 1) := by decide +kernel
theorem d_S_keepAsBest_54 : decode b_S_keepAsBest 54 = .ok (.iaload, 1) := by decide +kernel
theorem d_S_keepAsBest_55 : decode b_S_keepAsBest 55 = .ok (.invokevirtual 120, 3) := by decide +kernel
theorem d_S_keepAsBest_58 : decode b_S_keepAsBest 58 = .ok (.iinc 2 1, 3) := by decide +kernel
theorem d_S_keepAsBest_61 : decode b_S_keepAsBest 61 = .ok (.goto (-34), 3) := by decide +kernel
theorem d_S_keepAsBest_64 : decode b_S_keepAsBest 64 = .ok (.return_, 1) := by decide +kernel
theorem d_H_init_0 : decode b_H_init 0 = .ok (.aload_n 0, 1) := by decide +kernel
theorem d_H_init_1 : decode b_H_init 1 = .ok (.invokespecial 3, 3) := by decide +kernel
theorem d_H_init_4 : decode b_H_init 4 = .ok (.aload_n 0, 1) := by decide +kernel
theorem d_H_init_5 : decode b_H_init 5 = .ok (.bipush 6, 2) := by decide +kernel
theorem d_H_init_7 : decode b_H_init 7 = .ok (.newarray .int, 2) := by decide +kernel
theorem d_H_init_9 : decode b_H_init 9 = .ok (.putfield 9, 3) := by decide +kernel
theorem d_H_init_12 : decode b_H_init 12 = .ok (.aload_n 0, 1) := by decide +kernel
theorem d_H_init_13 : decode b_H_init 13 = .ok (.aload_n 1, 1) := by decide +kernel
theorem d_H_init_14 : decode b_H_init 14 = .ok (.putfield 15, 3) := by decide +kernel
theorem d_H_init_17 : decode b_H_init 17 = .ok (.aload_n 0, 1) := by decide +kernel
theorem d_H_init_18 : decode b_H_init 18 = .ok (.aload_n 2, 1) := by decide +kernel
theorem d_H_init_19 : decode b_H_init 19 = .ok (.putfield 19, 3) := by decide +kernel
theorem d_H_init_22 : decode b_H_init 22 = .ok (.return_, 1) := by decide +kernel
theorem d_H_begin_0 : decode b_H_begin 0 = .ok (.aload_n 0, 1) := by decide +kernel
theorem d_H_begin_1 : decode b_H_begin 1 = .ok (.iload_n 1, 1) := by decide +kernel
theorem d_H_begin_2 : decode b_H_begin 2 = .ok (.putfield 23, 3) := by decide +kernel
theorem d_H_begin_5 : decode b_H_begin 5 = .ok (.return_, 1) := by decide +kernel
theorem d_H_drawEnd_0 : decode b_H_drawEnd 0 = .ok (.iconst 0, 1) := by decide +kernel
theorem d_H_drawEnd_1 : decode b_H_drawEnd 1 = .ok (.istore_n 2, 1) := by decide +kernel
theorem d_H_drawEnd_2 : decode b_H_drawEnd 2 = .ok (.iload_n 2, 1) := by decide +kernel
theorem d_H_drawEnd_3 : decode b_H_drawEnd 3 = .ok (.aload_n 0, 1) := by decide +kernel
theorem d_H_drawEnd_4 : decode b_H_drawEnd 4 = .ok (.getfield 15, 3) := by decide +kernel
theorem d_H_drawEnd_7 : decode b_H_drawEnd 7 = .ok (.getfield 27, 3) := by decide +kernel
theorem d_H_drawEnd_10 : decode b_H_drawEnd 10 = .ok (.if_icmp .ge 27, 3) := by decide +kernel
theorem d_H_drawEnd_13 : decode b_H_drawEnd 13 = .ok (.aload_n 0, 1) := by decide +kernel
theorem d_H_drawEnd_14 : decode b_H_drawEnd 14 = .ok (.getfield 9, 3) := by decide +kernel
theorem d_H_drawEnd_17 : decode b_H_drawEnd 17 = .ok (.iload_n 2, 1) := by decide +kernel
theorem d_H_drawEnd_18 : decode b_H_drawEnd 18 = .ok (.aload_n 0, 1) := by decide +kernel
theorem d_H_drawEnd_19 : decode b_H_drawEnd 19 = .ok (.getfield 15, 3) := by decide +kernel
theorem d_H_drawEnd_22 : decode b_H_drawEnd 22 = .ok (.getfield 32, 3) := by decide +kernel
theorem d_H_drawEnd_25 : decode b_H_drawEnd 25 = .ok (.iload_n 2, 1) := by decide +kernel
theorem d_H_drawEnd_26 : decode b_H_drawEnd 26 = .ok (.aaload, 1) := by decide +kernel
theorem d_H_drawEnd_27 : decode b_H_drawEnd 27 = .ok (.getfield 36, 3) := by decide +kernel
theorem d_H_drawEnd_30 : decode b_H_drawEnd 30 = .ok (.iastore, 1) := by decide +kernel
theorem d_H_drawEnd_31 : decode b_H_drawEnd 31 = .ok (.iinc 2 1, 3) := by decide +kernel
theorem d_H_drawEnd_34 : decode b_H_drawEnd 34 = .ok (.goto (-32), 3) := by decide +kernel
theorem d_H_drawEnd_37 : decode b_H_drawEnd 37 = .ok (.iconst 0, 1) := by decide +kernel
theorem d_H_drawEnd_38 : decode b_H_drawEnd 38 = .ok (.istore_n 2, 1) := by decide +kernel
theorem d_H_drawEnd_39 : decode b_H_drawEnd 39 = .ok (.iconst 0, 1) := by decide +kernel
theorem d_H_drawEnd_40 : decode b_H_drawEnd 40 = .ok (.istore_n 3, 1) := by decide +kernel
theorem d_H_drawEnd_41 : decode b_H_drawEnd 41 = .ok (.iload_n 3, 1) := by decide +kernel
theorem d_H_drawEnd_42 : decode b_H_drawEnd 42 = .ok (.sipush 400, 3) := by decide +kernel
theorem d_H_drawEnd_45 : decode b_H_drawEnd 45 = .ok (.if_icmp .ge 47, 3) := by decide +kernel
theorem d_H_drawEnd_48 : decode b_H_drawEnd 48 = .ok (.aload_n 0, 1) := by decide +kernel
theorem d_H_drawEnd_49 : decode b_H_drawEnd 49 = .ok (.iload_n 1, 1) := by decide +kernel
theorem d_H_drawEnd_50 : decode b_H_drawEnd 50 = .ok (.invokevirtual 41, 3) := by decide +kernel
theorem d_H_drawEnd_53 : decode b_H_drawEnd 53 = .ok (.istore 4, 2) := by decide +kernel
theorem d_H_drawEnd_55 : decode b_H_drawEnd 55 = .ok (.iload 4, 2) := by decide +kernel
theorem d_H_drawEnd_57 : decode b_H_drawEnd 57 = .ok (.ifCond .ne 29, 3) := by decide +kernel
theorem d_H_drawEnd_60 : decode b_H_drawEnd 60 = .ok (.aload_n 0, 1) := by decide +kernel
theorem d_H_drawEnd_61 : decode b_H_drawEnd 61 = .ok (.getfield 15, 3) := by decide +kernel
theorem d_H_drawEnd_64 : decode b_H_drawEnd 64 = .ok (.getfield 45, 3) := by decide +kernel
theorem d_H_drawEnd_67 : decode b_H_drawEnd 67 = .ok (.iload_n 3, 1) := by decide +kernel
theorem d_H_drawEnd_68 : decode b_H_drawEnd 68 = .ok (.invokevirtual 49, 3) := by decide +kernel
theorem d_H_drawEnd_71 : decode b_H_drawEnd 71 = .ok (.ifCond .eq 15, 3) := by decide +kernel
theorem d_H_drawEnd_74 : decode b_H_drawEnd 74 = .ok (.aload_n 0, 1) := by decide +kernel
theorem d_H_drawEnd_75 : decode b_H_drawEnd 75 = .ok (.iload_n 3, 1) := by decide +kernel
theorem d_H_drawEnd_76 : decode b_H_drawEnd 76 = .ok (.invokevirtual 54, 3) := by decide +kernel
theorem d_H_drawEnd_79 : decode b_H_drawEnd 79 = .ok (.ifCond .eq 7, 3) := by decide +kernel
theorem d_H_drawEnd_82 : decode b_H_drawEnd 82 = .ok (.iload_n 3, 1) := by decide +kernel
theorem d_H_drawEnd_83 : decode b_H_drawEnd 83 = .ok (.iconst 1, 1) := by decide +kernel
theorem d_H_drawEnd_84 : decode b_H_drawEnd 84 = .ok (.iadd, 1) := by decide +kernel
theorem d_H_drawEnd_85 : decode b_H_drawEnd 85 = .ok (.istore_n 2, 1) := by decide +kernel
theorem d_H_drawEnd_86 : decode b_H_drawEnd 86 = .ok (.iinc 3 1, 3) := by decide +kernel
theorem d_H_drawEnd_89 : decode b_H_drawEnd 89 = .ok (.goto (-48), 3) := by decide +kernel
theorem d_H_drawEnd_92 : decode b_H_drawEnd 92 = .ok (.iconst 0, 1) := by decide +kernel
theorem d_H_drawEnd_93 : decode b_H_drawEnd 93 = .ok (.istore_n 3, 1) := by decide +kernel
theorem d_H_drawEnd_94 : decode b_H_drawEnd 94 = .ok (.iload_n 3, 1) := by decide +kernel
theorem d_H_drawEnd_95 : decode b_H_drawEnd 95 = .ok (.aload_n 0, 1) := by decide +kernel
theorem d_H_drawEnd_96 : decode b_H_drawEnd 96 = .ok (.getfield 15, 3) := by decide +kernel
theorem d_H_drawEnd_99 : decode b_H_drawEnd 99 = .ok (.getfield 27, 3) := by decide +kernel
theorem d_H_drawEnd_102 : decode b_H_drawEnd 102 = .ok (.if_icmp .ge 33, 3) := by decide +kernel
theorem d_H_drawEnd_105 : decode b_H_drawEnd 105 = .ok (.aload_n 0, 1) := by decide +kernel
theorem d_H_drawEnd_106 : decode b_H_drawEnd 106 = .ok (.getfield 9, 3) := by decide +kernel
theorem d_H_drawEnd_109 : decode b_H_drawEnd 109 = .ok (.iload_n 3, 1) := by decide +kernel
theorem d_H_drawEnd_110 : decode b_H_drawEnd 110 = .ok (.iaload, 1) := by decide +kernel
theorem d_H_drawEnd_111 : decode b_H_drawEnd 111 = .ok (.ifCond .le 18, 3) := by decide +kernel
theorem d_H_drawEnd_114 : decode b_H_drawEnd 114 = .ok (.iload_n 2, 1) := by decide +kernel
theorem d_H_drawEnd_115 : decode b_H_drawEnd 115 = .ok (.sipush 400, 3) := by decide +kernel
theorem d_H_drawEnd_118 : decode b_H_drawEnd 118 = .ok (.aload_n 0, 1) := by decide +kernel
theorem d_H_drawEnd_119 : decode b_H_drawEnd 119 = .ok (.getfield 9, 3) := by decide +kernel
theorem d_H_drawEnd_122 : decode b_H_drawEnd 122 = .ok (.iload_n 3, 1) := by decide +kernel
theorem d_H_drawEnd_123 : decode b_H_drawEnd 123 = .ok (.iaload, 1) := by decide +kernel
theorem d_H_drawEnd_124 : decode b_H_drawEnd 124 = .ok (.iadd, 1) := by decide +kernel
theorem d_H_drawEnd_125 : decode b_H_drawEnd 125 = .ok (.invokestatic 57, 3) := by decide +kernel
theorem d_H_drawEnd_128 : decode b_H_drawEnd 128 = .ok (.istore_n 2, 1) := by decide +kernel
theorem d_H_drawEnd_129 : decode b_H_drawEnd 129 = .ok (.iinc 3 1, 3) := by decide +kernel
theorem d_H_drawEnd_132 : decode b_H_drawEnd 132 = .ok (.goto (-38), 3) := by decide +kernel
theorem d_H_drawEnd_135 : decode b_H_drawEnd 135 = .ok (.iload_n 2, 1) := by decide +kernel
theorem d_H_drawEnd_136 : decode b_H_drawEnd 136 = .ok (.ireturn, 1) := by decide +kernel
theorem d_H_drawWet_0 : decode b_H_drawWet 0 = .ok (.aload_n 0, 1) := by decide +kernel
theorem d_H_drawWet_1 : decode b_H_drawWet 1 = .ok (.aload_n 0, 1) := by decide +kernel
theorem d_H_drawWet_2 : decode b_H_drawWet 2 = .ok (.getfield 23, 3) := by decide +kernel
theorem d_H_drawWet_5 : decode b_H_drawWet 5 = .ok (.ldc 63, 2) := by decide +kernel
theorem d_H_drawWet_7 : decode b_H_drawWet 7 = .ok (.imul, 1) := by decide +kernel
theorem d_H_drawWet_8 : decode b_H_drawWet 8 = .ok (.sipush 12345, 3) := by decide +kernel
theorem d_H_drawWet_11 : decode b_H_drawWet 11 = .ok (.iadd, 1) := by decide +kernel
theorem d_H_drawWet_12 : decode b_H_drawWet 12 = .ok (.ldc 64, 2) := by decide +kernel
theorem d_H_drawWet_14 : decode b_H_drawWet 14 = .ok (.iand, 1) := by decide +kernel
theorem d_H_drawWet_15 : decode b_H_drawWet 15 = .ok (.putfield 23, 3) := by decide +kernel
theorem d_H_drawWet_18 : decode b_H_drawWet 18 = .ok (.aload_n 0, 1) := by decide +kernel
theorem d_H_drawWet_19 : decode b_H_drawWet 19 = .ok (.getfield 23, 3) := by decide +kernel
theorem d_H_drawWet_22 : decode b_H_drawWet 22 = .ok (.ldc 65, 2) := by decide +kernel
theorem d_H_drawWet_24 : decode b_H_drawWet 24 = .ok (.idiv, 1) := by decide +kernel
theorem d_H_drawWet_25 : decode b_H_drawWet 25 = .ok (.bipush 100, 2) := by decide +kernel
theorem d_H_drawWet_27 : decode b_H_drawWet 27 = .ok (.irem, 1) := by decide +kernel
theorem d_H_drawWet_28 : decode b_H_drawWet 28 = .ok (.iload_n 1, 1) := by decide +kernel
theorem d_H_drawWet_29 : decode b_H_drawWet 29 = .ok (.if_icmp .ge 7, 3) := by decide +kernel
theorem d_H_drawWet_32 : decode b_H_drawWet 32 = .ok (.iconst 1, 1) := by decide +kernel
theorem d_H_drawWet_33 : decode b_H_drawWet 33 = .ok (.goto 4, 3) := by decide +kernel
theorem d_H_drawWet_36 : decode b_H_drawWet 36 = .ok (.iconst 0, 1) := by decide +kernel
theorem d_H_drawWet_37 : decode b_H_drawWet 37 = .ok (.ireturn, 1) := by decide +kernel
theorem d_H_goOn_0 : decode b_H_goOn 0 = .ok (.iconst 0, 1) := by decide +kernel
theorem d_H_goOn_1 : decode b_H_goOn 1 = .ok (.istore_n 2, 1) := by decide +kernel
theorem d_H_goOn_2 : decode b_H_goOn 2 = .ok (.iconst 0, 1) := by decide +kernel
theorem d_H_goOn_3 : decode b_H_goOn 3 = .ok (.istore_n 3, 1) := by decide +kernel
theorem d_H_goOn_4 : decode b_H_goOn 4 = .ok (.iload_n 3, 1) := by decide +kernel
theorem d_H_goOn_5 : decode b_H_goOn 5 = .ok (.aload_n 0, 1) := by decide +kernel
theorem d_H_goOn_6 : decode b_H_goOn 6 = .ok (.getfield 15, 3) := by decide +kernel
theorem d_H_goOn_9 : decode b_H_goOn 9 = .ok (.getfield 27, 3) := by decide +kernel
theorem d_H_goOn_12 : decode b_H_goOn 12 = .ok (.if_icmp .ge 43, 3) := by decide +kernel
theorem d_H_goOn_15 : decode b_H_goOn 15 = .ok (.aload_n 0, 1) := by decide +kernel
theorem d_H_goOn_16 : decode b_H_goOn 16 = .ok (.getfield 9, 3) := by decide +kernel
theorem d_H_goOn_19 : decode b_H_goOn 19 = .ok (.iload_n 3, 1) := by decide +kernel
theorem d_H_goOn_20 : decode b_H_goOn 20 = .ok (.iaload, 1) := by decide +kernel
theorem d_H_goOn_21 : decode b_H_goOn 21 = .ok (.ifCond .le 28, 3) := by decide +kernel
theorem d_H_goOn_24 : decode b_H_goOn 24 = .ok (.aload_n 0, 1) := by decide +kernel
theorem d_H_goOn_25 : decode b_H_goOn 25 = .ok (.getfield 19, 3) := by decide +kernel
theorem d_H_goOn_28 : decode b_H_goOn 28 = .ok (.getfield 66, 3) := by decide +kernel
theorem d_H_goOn_31 : decode b_H_goOn 31 = .ok (.iload_n 3, 1) := by decide +kernel
theorem d_H_goOn_32 : decode b_H_goOn 32 = .ok (.iaload, 1) := by decide +kernel
theorem d_H_goOn_33 : decode b_H_goOn 33 = .ok (.iload_n 1, 1) := by decide +kernel
theorem d_H_goOn_34 : decode b_H_goOn 34 = .ok (.if_icmp .gt 15, 3) := by decide +kernel
theorem d_H_goOn_37 : decode b_H_goOn 37 = .ok (.aload_n 0, 1) := by decide +kernel
theorem d_H_goOn_38 : decode b_H_goOn 38 = .ok (.getfield 9, 3) := by decide +kernel
theorem d_H_goOn_41 : decode b_H_goOn 41 = .ok (.iload_n 3, 1) := by decide +kernel
theorem d_H_goOn_42 : decode b_H_goOn 42 = .ok (.dup2, 1) := by decide +kernel
theorem d_H_goOn_43 : decode b_H_goOn 43 = .ok (.iaload, 1) := by decide +kernel
theorem d_H_goOn_44 : decode b_H_goOn 44 = .ok (.iconst 1, 1) := by decide +kernel
theorem d_H_goOn_45 : decode b_H_goOn 45 = .ok (.isub, 1) := by decide +kernel
theorem d_H_goOn_46 : decode b_H_goOn 46 = .ok (.iastore, 1) := by decide +kernel
theorem d_H_goOn_47 : decode b_H_goOn 47 = .ok (.iconst 1, 1) := by decide +kernel
theorem d_H_goOn_48 : decode b_H_goOn 48 = .ok (.istore_n 2, 1) := by decide +kernel
theorem d_H_goOn_49 : decode b_H_goOn 49 = .ok (.iinc 3 1, 3) := by decide +kernel
theorem d_H_goOn_52 : decode b_H_goOn 52 = .ok (.goto (-48), 3) := by decide +kernel
theorem d_H_goOn_55 : decode b_H_goOn 55 = .ok (.iload_n 2, 1) := by decide +kernel
theorem d_H_goOn_56 : decode b_H_goOn 56 = .ok (.ireturn, 1) := by decide +kernel
theorem d_W_init_0 : decode b_W_init 0 = .ok (.aload_n 0, 1) := by decide +kernel
theorem d_W_init_1 : decode b_W_init 1 = .ok (.invokespecial 1, 3) := by decide +kernel
theorem d_W_init_4 : decode b_W_init 4 = .ok (.return_, 1) := by decide +kernel
theorem d_W_set_0 : decode b_W_set 0 = .ok (.aload_n 0, 1) := by decide +kernel
theorem d_W_set_1 : decode b_W_set 1 = .ok (.iload_n 1, 1) := by decide +kernel
theorem d_W_set_2 : decode b_W_set 2 = .ok (.putfield 7, 3) := by decide +kernel
theorem d_W_set_5 : decode b_W_set 5 = .ok (.aload_n 0, 1) := by decide +kernel
theorem d_W_set_6 : decode b_W_set 6 = .ok (.iload_n 2, 1) := by decide +kernel
theorem d_W_set_7 : decode b_W_set 7 = .ok (.putfield 13, 3) := by decide +kernel
theorem d_W_set_10 : decode b_W_set 10 = .ok (.return_, 1) := by decide +kernel
theorem d_W_raiseLeast_0 : decode b_W_raiseLeast 0 = .ok (.aload_n 0, 1) := by decide +kernel
theorem d_W_raiseLeast_1 : decode b_W_raiseLeast 1 = .ok (.aload_n 0, 1) := by decide +kernel
theorem d_W_raiseLeast_2 : decode b_W_raiseLeast 2 = .ok (.getfield 7, 3) := by decide +kernel
theorem d_W_raiseLeast_5 : decode b_W_raiseLeast 5 = .ok (.iload_n 1, 1) := by decide +kernel
theorem d_W_raiseLeast_6 : decode b_W_raiseLeast 6 = .ok (.invokestatic 16, 3) := by decide +kernel
theorem d_W_raiseLeast_9 : decode b_W_raiseLeast 9 = .ok (.putfield 7, 3) := by decide +kernel
theorem d_W_raiseLeast_12 : decode b_W_raiseLeast 12 = .ok (.return_, 1) := by decide +kernel
theorem d_W_lowerGreatest_0 : decode b_W_lowerGreatest 0 = .ok (.aload_n 0, 1) := by decide +kernel
theorem d_W_lowerGreatest_1 : decode b_W_lowerGreatest 1 = .ok (.aload_n 0, 1) := by decide +kernel
theorem d_W_lowerGreatest_2 : decode b_W_lowerGreatest 2 = .ok (.getfield 13, 3) := by decide +kernel
theorem d_W_lowerGreatest_5 : decode b_W_lowerGreatest 5 = .ok (.iload_n 1, 1) := by decide +kernel
theorem d_W_lowerGreatest_6 : decode b_W_lowerGreatest 6 = .ok (.invokestatic 22, 3) := by decide +kernel
theorem d_W_lowerGreatest_9 : decode b_W_lowerGreatest 9 = .ok (.putfield 13, 3) := by decide +kernel
theorem d_W_lowerGreatest_12 : decode b_W_lowerGreatest 12 = .ok (.return_, 1) := by decide +kernel
theorem d_W_holds_0 : decode b_W_holds 0 = .ok (.aload_n 0, 1) := by decide +kernel
theorem d_W_holds_1 : decode b_W_holds 1 = .ok (.getfield 7, 3) := by decide +kernel
theorem d_W_holds_4 : decode b_W_holds 4 = .ok (.iload_n 1, 1) := by decide +kernel
theorem d_W_holds_5 : decode b_W_holds 5 = .ok (.if_icmp .gt 15, 3) := by decide +kernel
theorem d_W_holds_8 : decode b_W_holds 8 = .ok (.iload_n 1, 1) := by decide +kernel
theorem d_W_holds_9 : decode b_W_holds 9 = .ok (.aload_n 0, 1) := by decide +kernel
theorem d_W_holds_10 : decode b_W_holds 10 = .ok (.getfield 13, 3) := by decide +kernel
theorem d_W_holds_13 : decode b_W_holds 13 = .ok (.if_icmp .gt 7, 3) := by decide +kernel
theorem d_W_holds_16 : decode b_W_holds 16 = .ok (.iconst 1, 1) := by decide +kernel
theorem d_W_holds_17 : decode b_W_holds 17 = .ok (.goto 4, 3) := by decide +kernel
theorem d_W_holds_20 : decode b_W_holds 20 = .ok (.iconst 0, 1) := by decide +kernel
theorem d_W_holds_21 : decode b_W_holds 21 = .ok (.ireturn, 1) := by decide +kernel
theorem d_W_isEmpty_0 : decode b_W_isEmpty 0 = .ok (.aload_n 0, 1) := by decide +kernel
theorem d_W_isEmpty_1 : decode b_W_isEmpty 1 = .ok (.getfield 7, 3) := by decide +kernel
theorem d_W_isEmpty_4 : decode b_W_isEmpty 4 = .ok (.aload_n 0, 1) := by decide +kernel
theorem d_W_isEmpty_5 : decode b_W_isEmpty 5 = .ok (.getfield 13, 3) := by decide +kernel
theorem d_W_isEmpty_8 : decode b_W_isEmpty 8 = .ok (.if_icmp .le 7, 3) := by decide +kernel
theorem d_W_isEmpty_11 : decode b_W_isEmpty 11 = .ok (.iconst 1, 1) := by decide +kernel
theorem d_W_isEmpty_12 : decode b_W_isEmpty 12 = .ok (.goto 4, 3) := by decide +kernel
theorem d_W_isEmpty_15 : decode b_W_isEmpty 15 = .ok (.iconst 0, 1) := by decide +kernel
theorem d_W_isEmpty_16 : decode b_W_isEmpty 16 = .ok (.ireturn, 1) := by decide +kernel
theorem d_K_init_0 : decode b_K_init 0 = .ok (.aload_n 0, 1) := by decide +kernel
theorem d_K_init_1 : decode b_K_init 1 = .ok (.invokespecial 3, 3) := by decide +kernel
theorem d_K_init_4 : decode b_K_init 4 = .ok (.aload_n 0, 1) := by decide +kernel
theorem d_K_init_5 : decode b_K_init 5 = .ok (.iconst 1, 1) := by decide +kernel
theorem d_K_init_6 : decode b_K_init 6 = .ok (.putfield 9, 3) := by decide +kernel
theorem d_K_init_9 : decode b_K_init 9 = .ok (.aload_n 0, 1) := by decide +kernel
theorem d_K_init_10 : decode b_K_init 10 = .ok (.sipush 999, 3) := by decide +kernel
theorem d_K_init_13 : decode b_K_init 13 = .ok (.putfield 15, 3) := by decide +kernel
theorem d_K_init_16 : decode b_K_init 16 = .ok (.return_, 1) := by decide +kernel
theorem d_K_setSpeed_0 : decode b_K_setSpeed 0 = .ok (.aload_n 0, 1) := by decide +kernel
theorem d_K_setSpeed_1 : decode b_K_setSpeed 1 = .ok (.iconst 1, 1) := by decide +kernel
theorem d_K_setSpeed_2 : decode b_K_setSpeed 2 = .ok (.bipush 50, 2) := by decide +kernel
theorem d_K_setSpeed_4 : decode b_K_setSpeed 4 = .ok (.iload_n 1, 1) := by decide +kernel
theorem d_K_setSpeed_5 : decode b_K_setSpeed 5 = .ok (.invokestatic 18, 3) := by decide +kernel
theorem d_K_setSpeed_8 : decode b_K_setSpeed 8 = .ok (.invokestatic 24, 3) := by decide +kernel
theorem d_K_setSpeed_11 : decode b_K_setSpeed 11 = .ok (.putfield 9, 3) := by decide +kernel
theorem d_K_setSpeed_14 : decode b_K_setSpeed 14 = .ok (.aload_n 0, 1) := by decide +kernel
theorem d_K_setSpeed_15 : decode b_K_setSpeed 15 = .ok (.aload_n 0, 1) := by decide +kernel
theorem d_K_setSpeed_16 : decode b_K_setSpeed 16 = .ok (.getfield 9, 3) := by decide +kernel
theorem d_K_setSpeed_19 : decode b_K_setSpeed 19 = .ok (.iconst 1, 1) := by decide +kernel
theorem d_K_setSpeed_20 : decode b_K_setSpeed 20 = .ok (.if_icmp .ge 7, 3) := by decide +kernel
theorem d_K_setSpeed_23 : decode b_K_setSpeed 23 = .ok (.iconst 0, 1) := by decide +kernel
theorem d_K_setSpeed_24 : decode b_K_setSpeed 24 = .ok (.goto 24, 3) := by decide +kernel
theorem d_K_setSpeed_27 : decode b_K_setSpeed 27 = .ok (.aload_n 0, 1) := by decide +kernel
theorem d_K_setSpeed_28 : decode b_K_setSpeed 28 = .ok (.getfield 27, 3) := by decide +kernel
theorem d_K_setSpeed_31 : decode b_K_setSpeed 31 = .ok (.aload_n 0, 1) := by decide +kernel
theorem d_K_setSpeed_32 : decode b_K_setSpeed 32 = .ok (.getfield 30, 3) := by decide +kernel
theorem d_K_setSpeed_35 : decode b_K_setSpeed 35 = .ok (.isub, 1) := by decide +kernel
theorem d_K_setSpeed_36 : decode b_K_setSpeed 36 = .ok (.aload_n 0, 1) := by decide +kernel
theorem d_K_setSpeed_37 : decode b_K_setSpeed 37 = .ok (.getfield 9, 3) := by decide +kernel
theorem d_K_setSpeed_40 : decode b_K_setSpeed 40 = .ok (.iadd, 1) := by decide +kernel
theorem d_K_setSpeed_41 : decode b_K_setSpeed 41 = .ok (.iconst 1, 1) := by decide +kernel
theorem d_K_setSpeed_42 : decode b_K_setSpeed 42 = .ok (.isub, 1) := by decide +kernel
theorem d_K_setSpeed_43 : decode b_K_setSpeed 43 = .ok (.aload_n 0, 1) := by decide +kernel
theorem d_K_setSpeed_44 : decode b_K_setSpeed 44 = .ok (.getfield 9, 3) := by decide +kernel
theorem d_K_setSpeed_47 : decode b_K_setSpeed 47 = .ok (.idiv, 1) := by decide +kernel
theorem d_K_setSpeed_48 : decode b_K_setSpeed 48 = .ok (.putfield 33, 3) := by decide +kernel
theorem d_K_setSpeed_51 : decode b_K_setSpeed 51 = .ok (.return_, 1) := by decide +kernel
theorem d_K_comesTo_0 : decode b_K_comesTo 0 = .ok (.aload_n 0, 1) := by decide +kernel
theorem d_K_comesTo_1 : decode b_K_comesTo 1 = .ok (.getfield 30, 3) := by decide +kernel
theorem d_K_comesTo_4 : decode b_K_comesTo 4 = .ok (.iload_n 1, 1) := by decide +kernel
theorem d_K_comesTo_5 : decode b_K_comesTo 5 = .ok (.if_icmp .gt 15, 3) := by decide +kernel
theorem d_K_comesTo_8 : decode b_K_comesTo 8 = .ok (.iload_n 1, 1) := by decide +kernel
theorem d_K_comesTo_9 : decode b_K_comesTo 9 = .ok (.aload_n 0, 1) := by decide +kernel
theorem d_K_comesTo_10 : decode b_K_comesTo 10 = .ok (.getfield 27, 3) := by decide +kernel
theorem d_K_comesTo_13 : decode b_K_comesTo 13 = .ok (.if_icmp .gt 7, 3) := by decide +kernel
theorem d_K_comesTo_16 : decode b_K_comesTo 16 = .ok (.iconst 1, 1) := by decide +kernel
theorem d_K_comesTo_17 : decode b_K_comesTo 17 = .ok (.goto 4, 3) := by decide +kernel
theorem d_K_comesTo_20 : decode b_K_comesTo 20 = .ok (.iconst 0, 1) := by decide +kernel
theorem d_K_comesTo_21 : decode b_K_comesTo 21 = .ok (.ireturn, 1) := by decide +kernel
theorem d_K_wayTo_0 : decode b_K_wayTo 0 = .ok (.iload_n 2, 1) := by decide +kernel
theorem d_K_wayTo_1 : decode b_K_wayTo 1 = .ok (.ifCond .ne 12, 3) := by decide +kernel
theorem d_K_wayTo_4 : decode b_K_wayTo 4 = .ok (.iload_n 1, 1) := by decide +kernel
theorem d_K_wayTo_5 : decode b_K_wayTo 5 = .ok (.aload_n 0, 1) := by decide +kernel
theorem d_K_wayTo_6 : decode b_K_wayTo 6 = .ok (.getfield 30, 3) := by decide +kernel
theorem d_K_wayTo_9 : decode b_K_wayTo 9 = .ok (.isub, 1) := by decide +kernel
theorem d_K_wayTo_10 : decode b_K_wayTo 10 = .ok (.goto 9, 3) := by decide +kernel
theorem d_K_wayTo_13 : decode b_K_wayTo 13 = .ok (.aload_n 0, 1) := by decide +kernel
theorem d_K_wayTo_14 : decode b_K_wayTo 14 = .ok (.getfield 27, 3) := by decide +kernel
theorem d_K_wayTo_17 : decode b_K_wayTo 17 = .ok (.iload_n 1, 1) := by decide +kernel
theorem d_K_wayTo_18 : decode b_K_wayTo 18 = .ok (.isub, 1) := by decide +kernel
theorem d_K_wayTo_19 : decode b_K_wayTo 19 = .ok (.ireturn, 1) := by decide +kernel
theorem d_K_wholeDays_0 : decode b_K_wholeDays 0 = .ok (.iload_n 1, 1) := by decide +kernel
theorem d_K_wholeDays_1 : decode b_K_wholeDays 1 = .ok (.ifCond .eq 20, 3) := by decide +kernel
theorem d_K_wholeDays_4 : decode b_K_wholeDays 4 = .ok (.iload_n 2, 1) := by decide +kernel
theorem d_K_wholeDays_5 : decode b_K_wholeDays 5 = .ok (.ifCond .eq 20, 3) := by decide +kernel
theorem d_K_wholeDays_8 : decode b_K_wholeDays 8 = .ok (.iload_n 1, 1) := by decide +kernel
theorem d_K_wholeDays_9 : decode b_K_wholeDays 9 = .ok (.aload_n 0, 1) := by decide +kernel
theorem d_K_wholeDays_10 : decode b_K_wholeDays 10 = .ok (.getfield 27, 3) := by decide +kernel
theorem d_K_wholeDays_13 : decode b_K_wholeDays 13 = .ok (.aload_n 0, 1) := by decide +kernel
theorem d_K_wholeDays_14 : decode b_K_wholeDays 14 = .ok (.getfield 30, 3) := by decide +kernel
theorem d_K_wholeDays_17 : decode b_K_wholeDays 17 = .ok (.isub, 1) := by decide +kernel
theorem d_K_wholeDays_18 : decode b_K_wholeDays 18 = .ok (.if_icmp .ge 7, 3) := by decide +kernel
theorem d_K_wholeDays_21 : decode b_K_wholeDays 21 = .ok (.iconst 1, 1) := by decide +kernel
theorem d_K_wholeDays_22 : decode b_K_wholeDays 22 = .ok (.goto 4, 3) := by decide +kernel
theorem d_K_wholeDays_25 : decode b_K_wholeDays 25 = .ok (.iconst 0, 1) := by decide +kernel
theorem d_K_wholeDays_26 : decode b_K_wholeDays 26 = .ok (.istore_n 3, 1) := by decide +kernel
theorem d_K_wholeDays_27 : decode b_K_wholeDays 27 = .ok (.aload_n 0, 1) := by decide +kernel
theorem d_K_wholeDays_28 : decode b_K_wholeDays 28 = .ok (.getfield 9, 3) := by decide +kernel
theorem d_K_wholeDays_31 : decode b_K_wholeDays 31 = .ok (.iconst 1, 1) := by decide +kernel
theorem d_K_wholeDays_32 : decode b_K_wholeDays 32 = .ok (.if_icmp .ge 7, 3) := by decide +kernel
theorem d_K_wholeDays_35 : decode b_K_wholeDays 35 = .ok (.iconst 0, 1) := by decide +kernel
theorem d_K_wholeDays_36 : decode b_K_wholeDays 36 = .ok (.goto 19, 3) := by decide +kernel
theorem d_K_wholeDays_39 : decode b_K_wholeDays 39 = .ok (.iload_n 3, 1) := by decide +kernel
theorem d_K_wholeDays_40 : decode b_K_wholeDays 40 = .ok (.ifCond .eq 7, 3) := by decide +kernel
theorem d_K_wholeDays_43 : decode b_K_wholeDays 43 = .ok (.iload_n 1, 1) := by decide +kernel
theorem d_K_wholeDays_44 : decode b_K_wholeDays 44 = .ok (.goto 6, 3) := by decide +kernel
theorem d_K_wholeDays_47 : decode b_K_wholeDays 47 = .ok (.iload_n 1, 1) := by decide +kernel
theorem d_K_wholeDays_48 : decode b_K_wholeDays 48 = .ok (.iconst 1, 1) := by decide +kernel
theorem d_K_wholeDays_49 : decode b_K_wholeDays 49 = .ok (.isub, 1) := by decide +kernel
theorem d_K_wholeDays_50 : decode b_K_wholeDays 50 = .ok (.aload_n 0, 1) := by decide +kernel
theorem d_K_wholeDays_51 : decode b_K_wholeDays 51 = .ok (.getfield 9, 3) := by decide +kernel
theorem d_K_wholeDays_54 : decode b_K_wholeDays 54 = .ok (.idiv, 1) := by decide +kernel
theorem d_K_wholeDays_55 : decode b_K_wholeDays 55 = .ok (.ireturn, 1) := by decide +kernel
theorem d_J_floorDiv_0 : decode b_J_floorDiv 0 = .ok (.iload_n 0, 1) := by decide +kernel
theorem d_J_floorDiv_1 : decode b_J_floorDiv 1 = .ok (.iload_n 1, 1) := by decide +kernel
theorem d_J_floorDiv_2 : decode b_J_floorDiv 2 = .ok (.idiv, 1) := by decide +kernel
theorem d_J_floorDiv_3 : decode b_J_floorDiv 3 = .ok (.istore_n 2, 1) := by decide +kernel
theorem d_J_floorDiv_4 : decode b_J_floorDiv 4 = .ok (.iload_n 0, 1) := by decide +kernel
theorem d_J_floorDiv_5 : decode b_J_floorDiv 5 = .ok (.iload_n 1, 1) := by decide +kernel
theorem d_J_floorDiv_6 : decode b_J_floorDiv 6 = .ok (.ixor, 1) := by decide +kernel
theorem d_J_floorDiv_7 : decode b_J_floorDiv 7 = .ok (.ifCond .ge 14, 3) := by decide +kernel
theorem d_J_floorDiv_10 : decode b_J_floorDiv 10 = .ok (.iload_n 2, 1) := by decide +kernel
theorem d_J_floorDiv_11 : decode b_J_floorDiv 11 = .ok (.iload_n 1, 1) := by decide +kernel
theorem d_J_floorDiv_12 : decode b_J_floorDiv 12 = .ok (.imul, 1) := by decide +kernel
theorem d_J_floorDiv_13 : decode b_J_floorDiv 13 = .ok (.iload_n 0, 1) := by decide +kernel
theorem d_J_floorDiv_14 : decode b_J_floorDiv 14 = .ok (.if_icmp .eq 7, 3) := by decide +kernel
theorem d_J_floorDiv_17 : decode b_J_floorDiv 17 = .ok (.iload_n 2, 1) := by decide +kernel
theorem d_J_floorDiv_18 : decode b_J_floorDiv 18 = .ok (.iconst 1, 1) := by decide +kernel
theorem d_J_floorDiv_19 : decode b_J_floorDiv 19 = .ok (.isub, 1) := by decide +kernel
theorem d_J_floorDiv_20 : decode b_J_floorDiv 20 = .ok (.ireturn, 1) := by decide +kernel
theorem d_J_floorDiv_21 : decode b_J_floorDiv 21 = .ok (.iload_n 2, 1) := by decide +kernel
theorem d_J_floorDiv_22 : decode b_J_floorDiv 22 = .ok (.ireturn, 1) := by decide +kernel
theorem d_J_max_0 : decode b_J_max 0 = .ok (.iload_n 0, 1) := by decide +kernel
theorem d_J_max_1 : decode b_J_max 1 = .ok (.iload_n 1, 1) := by decide +kernel
theorem d_J_max_2 : decode b_J_max 2 = .ok (.if_icmp .lt 7, 3) := by decide +kernel
theorem d_J_max_5 : decode b_J_max 5 = .ok (.iload_n 0, 1) := by decide +kernel
theorem d_J_max_6 : decode b_J_max 6 = .ok (.goto 4, 3) := by decide +kernel
theorem d_J_max_9 : decode b_J_max 9 = .ok (.iload_n 1, 1) := by decide +kernel
theorem d_J_max_10 : decode b_J_max 10 = .ok (.ireturn, 1) := by decide +kernel
theorem d_J_min_0 : decode b_J_min 0 = .ok (.iload_n 0, 1) := by decide +kernel
theorem d_J_min_1 : decode b_J_min 1 = .ok (.iload_n 1, 1) := by decide +kernel
theorem d_J_min_2 : decode b_J_min 2 = .ok (.if_icmp .gt 7, 3) := by decide +kernel
theorem d_J_min_5 : decode b_J_min 5 = .ok (.iload_n 0, 1) := by decide +kernel
theorem d_J_min_6 : decode b_J_min 6 = .ok (.goto 4, 3) := by decide +kernel
theorem d_J_min_9 : decode b_J_min 9 = .ok (.iload_n 1, 1) := by decide +kernel
theorem d_J_min_10 : decode b_J_min 10 = .ok (.ireturn, 1) := by decide +kernel
end
section
theorem d_T_init_0 : decode b_T_init 0 = .ok (.aload_n 0, 1) := by decide +kernel
theorem d_T_init_1 : decode b_T_init 1 = .ok (.invokespecial 1, 3) := by decide +kernel
theorem d_T_init_4 : decode b_T_init 4 = .ok (.aload_n 0, 1) := by decide +kernel
theorem d_T_init_5 : decode b_T_init 5 = .ok (.new 7, 3) := by decide +kernel
theorem d_T_init_8 : decode b_T_init 8 = .ok (.dup, 1) := by decide +kernel
theorem d_T_init_9 : decode b_T_init 9 = .ok (.invokespecial 9, 3) := by decide +kernel
theorem d_T_init_12 : decode b_T_init 12 = .ok (.putfield 10, 3) := by decide +kernel
theorem d_T_init_15 : decode b_T_init 15 = .ok (.aload_n 0, 1) := by decide +kernel
theorem d_T_init_16 : decode b_T_init 16 = .ok (.new 16, 3) := by decide +kernel
theorem d_T_init_19 : decode b_T_init 19 = .ok (.dup, 1) := by decide +kernel
theorem d_T_init_20 : decode b_T_init 20 = .ok (.aload_n 0, 1) := by decide +kernel
theorem d_T_init_21 : decode b_T_init 21 = .ok (.getfield 10, 3) := by decide +kernel
theorem d_T_init_24 : decode b_T_init 24 = .ok (.invokespecial 18, 3) := by decide +kernel
theorem d_T_init_27 : decode b_T_init 27 = .ok (.putfield 21, 3) := by decide +kernel
theorem d_T_init_30 : decode b_T_init 30 = .ok (.aload_n 0, 1) := by decide +kernel
theorem d_T_init_31 : decode b_T_init 31 = .ok (.new 25, 3) := by decide +kernel
theorem d_T_init_34 : decode b_T_init 34 = .ok (.dup, 1) := by decide +kernel
theorem d_T_init_35 : decode b_T_init 35 = .ok (.invokespecial 27, 3) := by decide +kernel
theorem d_T_init_38 : decode b_T_init 38 = .ok (.putfield 28, 3) := by decide +kernel
theorem d_T_init_41 : decode b_T_init 41 = .ok (.aload_n 0, 1) := by decide +kernel
theorem d_T_init_42 : decode b_T_init 42 = .ok (.new 32, 3) := by decide +kernel
theorem d_T_init_45 : decode b_T_init 45 = .ok (.dup, 1) := by decide +kernel
theorem d_T_init_46 : decode b_T_init 46 = .ok (.aload_n 0, 1) := by decide +kernel
theorem d_T_init_47 : decode b_T_init 47 = .ok (.getfield 10, 3) := by decide +kernel
theorem d_T_init_50 : decode b_T_init 50 = .ok (.aload_n 0, 1) := by decide +kernel
theorem d_T_init_51 : decode b_T_init 51 = .ok (.getfield 21, 3) := by decide +kernel
theorem d_T_init_54 : decode b_T_init 54 = .ok (.aload_n 0, 1) := by decide +kernel
theorem d_T_init_55 : decode b_T_init 55 = .ok (.getfield 28, 3) := by decide +kernel
theorem d_T_init_58 : decode b_T_init 58 = .ok (.invokespecial 34, 3) := by decide +kernel
theorem d_T_init_61 : decode b_T_init 61 = .ok (.putfield 37, 3) := by decide +kernel
theorem d_T_init_64 : decode b_T_init 64 = .ok (.aload_n 0, 1) := by decide +kernel
theorem d_T_init_65 : decode b_T_init 65 = .ok (.new 41, 3) := by decide +kernel
theorem d_T_init_68 : decode b_T_init 68 = .ok (.dup, 1) := by decide +kernel
theorem d_T_init_69 : decode b_T_init 69 = .ok (.invokespecial 43, 3) := by decide +kernel
theorem d_T_init_72 : decode b_T_init 72 = .ok (.putfield 44, 3) := by decide +kernel
theorem d_T_init_75 : decode b_T_init 75 = .ok (.aload_n 0, 1) := by decide +kernel
theorem d_T_init_76 : decode b_T_init 76 = .ok (.new 48, 3) := by decide +kernel
theorem d_T_init_79 : decode b_T_init 79 = .ok (.dup, 1) := by decide +kernel
theorem d_T_init_80 : decode b_T_init 80 = .ok (.aload_n 0, 1) := by decide +kernel
theorem d_T_init_81 : decode b_T_init 81 = .ok (.getfield 10, 3) := by decide +kernel
theorem d_T_init_84 : decode b_T_init 84 = .ok (.aload_n 0, 1) := by decide +kernel
theorem d_T_init_85 : decode b_T_init 85 = .ok (.getfield 28, 3) := by decide +kernel
theorem d_T_init_88 : decode b_T_init 88 = .ok (.invokespecial 50, 3) := by decide +kernel
theorem d_T_init_91 : decode b_T_init 91 = .ok (.putfield 53, 3) := by decide +kernel
theorem d_T_init_94 : decode b_T_init 94 = .ok (.aload_n 0, 1) := by decide +kernel
theorem d_T_init_95 : decode b_T_init 95 = .ok (.bipush 6, 2) := by decide +kernel
theorem d_T_init_97 : decode b_T_init 97 = .ok (.newarray .boolean, 2) := by decide +kernel
theorem d_T_init_99 : decode b_T_init 99 = .ok (.putfield 57, 3) := by decide +kernel
theorem d_T_init_102 : decode b_T_init 102 = .ok (.return_, 1) := by decide +kernel
theorem d_T_crew_0 : decode b_T_crew 0 = .ok (.iload_n 1, 1) := by decide +kernel
theorem d_T_crew_1 : decode b_T_crew 1 = .ok (.invokestatic 61, 3) := by decide +kernel
theorem d_T_crew_4 : decode b_T_crew 4 = .ok (.ifCond .eq 14, 3) := by decide +kernel
theorem d_T_crew_7 : decode b_T_crew 7 = .ok (.aload_n 0, 1) := by decide +kernel
theorem d_T_crew_8 : decode b_T_crew 8 = .ok (.getfield 10, 3) := by decide +kernel
theorem d_T_crew_11 : decode b_T_crew 11 = .ok (.getfield 65, 3) := by decide +kernel
theorem d_T_crew_14 : decode b_T_crew 14 = .ok (.iconst 4, 1) := by decide +kernel
theorem d_T_crew_15 : decode b_T_crew 15 = .ok (.if_icmp .lt 5, 3) := by decide +kernel
theorem d_T_crew_18 : decode b_T_crew 18 = .ok (.iconst (-1), 1) := by decide +kernel
theorem d_T_crew_19 : decode b_T_crew 19 = .ok (.ireturn, 1) := by decide +kernel
theorem d_T_crew_20 : decode b_T_crew 20 = .ok (.aload_n 0, 1) := by decide +kernel
theorem d_T_crew_21 : decode b_T_crew 21 = .ok (.getfield 10, 3) := by decide +kernel
theorem d_T_crew_24 : decode b_T_crew 24 = .ok (.iload_n 1, 1) := by decide +kernel
theorem d_T_crew_25 : decode b_T_crew 25 = .ok (.invokevirtual 69, 3) := by decide +kernel
theorem d_T_crew_28 : decode b_T_crew 28 = .ok (.istore_n 2, 1) := by decide +kernel
theorem d_T_crew_29 : decode b_T_crew 29 = .ok (.aload_n 0, 1) := by decide +kernel
theorem d_T_crew_30 : decode b_T_crew 30 = .ok (.invokevirtual 73, 3) := by decide +kernel
theorem d_T_crew_33 : decode b_T_crew 33 = .ok (.iload_n 2, 1) := by decide +kernel
theorem d_T_crew_34 : decode b_T_crew 34 = .ok (.ireturn, 1) := by decide +kernel
theorem d_T_work_0 : decode b_T_work 0 = .ok (.iload_n 1, 1) := by decide +kernel
theorem d_T_work_1 : decode b_T_work 1 = .ok (.ifCond .lt 18, 3) := by decide +kernel
theorem d_T_work_4 : decode b_T_work 4 = .ok (.iload_n 1, 1) := by decide +kernel
theorem d_T_work_5 : decode b_T_work 5 = .ok (.aload_n 0, 1) := by decide +kernel
theorem d_T_work_6 : decode b_T_work 6 = .ok (.getfield 10, 3) := by decide +kernel
theorem d_T_work_9 : decode b_T_work 9 = .ok (.getfield 65, 3) := by decide +kernel
theorem d_T_work_12 : decode b_T_work 12 = .ok (.if_icmp .ge 7, 3) := by decide +kernel
theorem d_T_work_15 : decode b_T_work 15 = .ok (.iconst 1, 1) := by decide +kernel
theorem d_T_work_16 : decode b_T_work 16 = .ok (.goto 4, 3) := by decide +kernel
theorem d_T_work_19 : decode b_T_work 19 = .ok (.iconst 0, 1) := by decide +kernel
theorem d_T_work_20 : decode b_T_work 20 = .ok (.istore 6, 2) := by decide +kernel
theorem d_T_work_22 : decode b_T_work 22 = .ok (.iconst 0, 1) := by decide +kernel
theorem d_T_work_23 : decode b_T_work 23 = .ok (.iload_n 2, 1) := by decide +kernel
theorem d_T_work_24 : decode b_T_work 24 = .ok (.if_icmp .gt 19, 3) := by decide +kernel
theorem d_T_work_27 : decode b_T_work 27 = .ok (.iload_n 2, 1) := by decide +kernel
theorem d_T_work_28 : decode b_T_work 28 = .ok (.iload_n 3, 1) := by decide +kernel
theorem d_T_work_29 : decode b_T_work 29 = .ok (.if_icmp .ge 14, 3) := by decide +kernel
theorem d_T_work_32 : decode b_T_work 32 = .ok (.iload_n 3, 1) := by decide +kernel
theorem d_T_work_33 : decode b_T_work 33 = .ok (.sipush 200, 3) := by decide +kernel
theorem d_T_work_36 : decode b_T_work 36 = .ok (.if_icmp .gt 7, 3) := by decide +kernel
theorem d_T_work_39 : decode b_T_work 39 = .ok (.iconst 1, 1) := by decide +kernel
theorem d_T_work_40 : decode b_T_work 40 = .ok (.goto 4, 3) := by decide +kernel
theorem d_T_work_43 : decode b_T_work 43 = .ok (.iconst 0, 1) := by decide +kernel
theorem d_T_work_44 : decode b_T_work 44 = .ok (.istore 7, 2) := by decide +kernel
theorem d_T_work_46 : decode b_T_work 46 = .ok (.iload 6, 2) := by decide +kernel
theorem d_T_work_48 : decode b_T_work 48 = .ok (.ifCond .eq 31, 3) := by decide +kernel
theorem d_T_work_51 : decode b_T_work 51 = .ok (.iload 7, 2) := by decide +kernel
theorem d_T_work_53 : decode b_T_work 53 = .ok (.ifCond .eq 26, 3) := by decide +kernel
theorem d_T_work_56 : decode b_T_work 56 = .ok (.iload 4, 2) := by decide +kernel
theorem d_T_work_58 : decode b_T_work 58 = .ok (.iconst 1, 1) := by decide +kernel
theorem d_T_work_59 : decode b_T_work 59 = .ok (.bipush 50, 2) := by decide +kernel
theorem d_T_work_61 : decode b_T_work 61 = .ok (.invokestatic 76, 3) := by decide +kernel
theorem d_T_work_64 : decode b_T_work 64 = .ok (.ifCond .eq 15, 3) := by decide +kernel
theorem d_T_work_67 : decode b_T_work 67 = .ok (.aload_n 0, 1) := by decide +kernel
theorem d_T_work_68 : decode b_T_work 68 = .ok (.getfield 10, 3) := by decide +kernel
theorem d_T_work_71 : decode b_T_work 71 = .ok (.getfield 80, 3) := by decide +kernel
theorem d_T_work_74 : decode b_T_work 74 = .ok (.bipush 6, 2) := by decide +kernel
theorem d_T_work_76 : decode b_T_work 76 = .ok (.if_icmp .lt 5, 3) := by decide +kernel
theorem d_T_work_79 : decode b_T_work 79 = .ok (.iconst (-1), 1) := by decide +kernel
theorem d_T_work_80 : decode b_T_work 80 = .ok (.ireturn, 1) := by decide +kernel
theorem d_T_work_81 : decode b_T_work 81 = .ok (.aload_n 0, 1) := by decide +kernel
theorem d_T_work_82 : decode b_T_work 82 = .ok (.getfield 10, 3) := by decide +kernel
theorem d_T_work_85 : decode b_T_work 85 = .ok (.iload_n 1, 1) := by decide +kernel
theorem d_T_work_86 : decode b_T_work 86 = .ok (.iload_n 2, 1) := by decide +kernel
theorem d_T_work_87 : decode b_T_work 87 = .ok (.iload_n 3, 1) := by decide +kernel
theorem d_T_work_88 : decode b_T_work 88 = .ok (.iload 4, 2) := by decide +kernel
theorem d_T_work_90 : decode b_T_work 90 = .ok (.iload 5, 2) := by decide +kernel
theorem d_T_work_92 : decode b_T_work 92 = .ok (.invokevirtual 83, 3) := by decide +kernel
theorem d_T_work_95 : decode b_T_work 95 = .ok (.istore 8, 2) := by decide +kernel
theorem d_T_work_97 : decode b_T_work 97 = .ok (.aload_n 0, 1) := by decide +kernel
theorem d_T_work_98 : decode b_T_work 98 = .ok (.invokevirtual 73, 3) := by decide +kernel
theorem d_T_work_101 : decode b_T_work 101 = .ok (.iload 8, 2) := by decide +kernel
theorem d_T_work_103 : decode b_T_work 103 = .ok (.ireturn, 1) := by decide +kernel
theorem d_T_after_0 : decode b_T_after 0 = .ok (.aload_n 0, 1) := by decide +kernel
theorem d_T_after_1 : decode b_T_after 1 = .ok (.iload_n 1, 1) := by decide +kernel
theorem d_T_after_2 : decode b_T_after 2 = .ok (.invokevirtual 87, 3) := by decide +kernel
theorem d_T_after_5 : decode b_T_after 5 = .ok (.ifCond .eq 26, 3) := by decide +kernel
theorem d_T_after_8 : decode b_T_after 8 = .ok (.aload_n 0, 1) := by decide +kernel
theorem d_T_after_9 : decode b_T_after 9 = .ok (.iload_n 2, 1) := by decide +kernel
theorem d_T_after_10 : decode b_T_after 10 = .ok (.invokevirtual 87, 3) := by decide +kernel
theorem d_T_after_13 : decode b_T_after 13 = .ok (.ifCond .eq 18, 3) := by decide +kernel
theorem d_T_after_16 : decode b_T_after 16 = .ok (.iload_n 1, 1) := by decide +kernel
theorem d_T_after_17 : decode b_T_after 17 = .ok (.iload_n 2, 1) := by decide +kernel
theorem d_T_after_18 : decode b_T_after 18 = .ok (.if_icmp .eq 13, 3) := by decide +kernel
theorem d_T_after_21 : decode b_T_after 21 = .ok (.iload_n 3, 1) := by decide +kernel
theorem d_T_after_22 : decode b_T_after 22 = .ok (.iconst 0, 1) := by decide +kernel
theorem d_T_after_23 : decode b_T_after 23 = .ok (.bipush 30, 2) := by decide +kernel
theorem d_T_after_25 : decode b_T_after 25 = .ok (.invokestatic 76, 3) := by decide +kernel
theorem d_T_after_28 : decode b_T_after 28 = .ok (.ifCond .ne 5, 3) := by decide +kernel
theorem d_T_after_31 : decode b_T_after 31 = .ok (.iconst 0, 1) := by decide +kernel
theorem d_T_after_32 : decode b_T_after 32 = .ok (.ireturn, 1) := by decide +kernel
theorem d_T_after_33 : decode b_T_after 33 = .ok (.aload_n 0, 1) := by decide +kernel
theorem d_T_after_34 : decode b_T_after 34 = .ok (.getfield 10, 3) := by decide +kernel
theorem d_T_after_37 : decode b_T_after 37 = .ok (.iload_n 1, 1) := by decide +kernel
theorem d_T_after_38 : decode b_T_after 38 = .ok (.iload_n 2, 1) := by decide +kernel
theorem d_T_after_39 : decode b_T_after 39 = .ok (.iload_n 3, 1) := by decide +kernel
theorem d_T_after_40 : decode b_T_after 40 = .ok (.invokevirtual 90, 3) := by decide +kernel
theorem d_T_after_43 : decode b_T_after 43 = .ok (.aload_n 0, 1) := by decide +kernel
theorem d_T_after_44 : decode b_T_after 44 = .ok (.invokevirtual 73, 3) := by decide +kernel
theorem d_T_after_47 : decode b_T_after 47 = .ok (.iconst 1, 1) := by decide +kernel
theorem d_T_after_48 : decode b_T_after 48 = .ok (.ireturn, 1) := by decide +kernel
theorem d_T_season_0 : decode b_T_season 0 = .ok (.aload_n 0, 1) := by decide +kernel
theorem d_T_season_1 : decode b_T_season 1 = .ok (.iload_n 1, 1) := by decide +kernel
theorem d_T_season_2 : decode b_T_season 2 = .ok (.invokevirtual 87, 3) := by decide +kernel
theorem d_T_season_5 : decode b_T_season 5 = .ok (.ifCond .eq 19, 3) := by decide +kernel
theorem d_T_season_8 : decode b_T_season 8 = .ok (.iload_n 2, 1) := by decide +kernel
theorem d_T_season_9 : decode b_T_season 9 = .ok (.ifCond .lt 15, 3) := by decide +kernel
theorem d_T_season_12 : decode b_T_season 12 = .ok (.iload_n 3, 1) := by decide +kernel
theorem d_T_season_13 : decode b_T_season 13 = .ok (.iload_n 2, 1) := by decide +kernel
theorem d_T_season_14 : decode b_T_season 14 = .ok (.if_icmp .lt 10, 3) := by decide +kernel
theorem d_T_season_17 : decode b_T_season 17 = .ok (.iload_n 3, 1) := by decide +kernel
theorem d_T_season_18 : decode b_T_season 18 = .ok (.sipush 999, 3) := by decide +kernel
theorem d_T_season_21 : decode b_T_season 21 = .ok (.if_icmp .le 5, 3) := by decide +kernel
theorem d_T_season_24 : decode b_T_season 24 = .ok (.iconst 0, 1) := by decide +kernel
theorem d_T_season_25 : decode b_T_season 25 = .ok (.ireturn, 1) := by decide +kernel
theorem d_T_season_26 : decode b_T_season 26 = .ok (.aload_n 0, 1) := by decide +kernel
theorem d_T_season_27 : decode b_T_season 27 = .ok (.getfield 10, 3) := by decide +kernel
theorem d_T_season_30 : decode b_T_season 30 = .ok (.getfield 94, 3) := by decide +kernel
theorem d_T_season_33 : decode b_T_season 33 = .ok (.iload_n 1, 1) := by decide +kernel
theorem d_T_season_34 : decode b_T_season 34 = .ok (.aaload, 1) := by decide +kernel
theorem d_T_season_35 : decode b_T_season 35 = .ok (.astore 4, 2) := by decide +kernel
theorem d_T_season_37 : decode b_T_season 37 = .ok (.aload 4, 2) := by decide +kernel
theorem d_T_season_39 : decode b_T_season 39 = .ok (.iload_n 2, 1) := by decide +kernel
theorem d_T_season_40 : decode b_T_season 40 = .ok (.putfield 98, 3) := by decide +kernel
theorem d_T_season_43 : decode b_T_season 43 = .ok (.aload 4, 2) := by decide +kernel
theorem d_T_season_45 : decode b_T_season 45 = .ok (.iload_n 3, 1) := by decide +kernel
theorem d_T_season_46 : decode b_T_season 46 = .ok (.putfield 103, 3) := by decide +kernel
theorem d_T_season_49 : decode b_T_season 49 = .ok (.aload_n 0, 1) := by decide +kernel
theorem d_T_season_50 : decode b_T_season 50 = .ok (.invokevirtual 73, 3) := by decide +kernel
theorem d_T_season_53 : decode b_T_season 53 = .ok (.iconst 1, 1) := by decide +kernel
theorem d_T_season_54 : decode b_T_season 54 = .ok (.ireturn, 1) := by decide +kernel
theorem d_T_bar_0 : decode b_T_bar 0 = .ok (.aload_n 0, 1) := by decide +kernel
theorem d_T_bar_1 : decode b_T_bar 1 = .ok (.iload_n 1, 1) := by decide +kernel
theorem d_T_bar_2 : decode b_T_bar 2 = .ok (.invokevirtual 87, 3) := by decide +kernel
theorem d_T_bar_5 : decode b_T_bar 5 = .ok (.ifCond .eq 42, 3) := by decide +kernel
theorem d_T_bar_8 : decode b_T_bar 8 = .ok (.aload_n 0, 1) := by decide +kernel
theorem d_T_bar_9 : decode b_T_bar 9 = .ok (.getfield 10, 3) := by decide +kernel
theorem d_T_bar_12 : decode b_T_bar 12 = .ok (.getfield 94, 3) := by decide +kernel
theorem d_T_bar_15 : decode b_T_bar 15 = .ok (.iload_n 1, 1) := by decide +kernel
theorem d_T_bar_16 : decode b_T_bar 16 = .ok (.aaload, 1) := by decide +kernel
theorem d_T_bar_17 : decode b_T_bar 17 = .ok (.iload_n 2, 1) := by decide +kernel
theorem d_T_bar_18 : decode b_T_bar 18 = .ok (.invokevirtual 106, 3) := by decide +kernel
theorem d_T_bar_21 : decode b_T_bar 21 = .ok (.ifCond .eq 26, 3) := by decide +kernel
theorem d_T_bar_24 : decode b_T_bar 24 = .ok (.iload_n 3, 1) := by decide +kernel
theorem d_T_bar_25 : decode b_T_bar 25 = .ok (.iconst 0, 1) := by decide +kernel
theorem d_T_bar_26 : decode b_T_bar 26 = .ok (.sipush 999, 3) := by decide +kernel
theorem d_T_bar_29 : decode b_T_bar 29 = .ok (.invokestatic 76, 3) := by decide +kernel
theorem d_T_bar_32 : decode b_T_bar 32 = .ok (.ifCond .eq 15, 3) := by decide +kernel
theorem d_T_bar_35 : decode b_T_bar 35 = .ok (.aload_n 0, 1) := by decide +kernel
theorem d_T_bar_36 : decode b_T_bar 36 = .ok (.getfield 10, 3) := by decide +kernel
theorem d_T_bar_39 : decode b_T_bar 39 = .ok (.getfield 109, 3) := by decide +kernel
theorem d_T_bar_42 : decode b_T_bar 42 = .ok (.bipush 8, 2) := by decide +kernel
theorem d_T_bar_44 : decode b_T_bar 44 = .ok (.if_icmp .lt 5, 3) := by decide +kernel
theorem d_T_bar_47 : decode b_T_bar 47 = .ok (.iconst 0, 1) := by decide +kernel
theorem d_T_bar_48 : decode b_T_bar 48 = .ok (.ireturn, 1) := by decide +kernel
theorem d_T_bar_49 : decode b_T_bar 49 = .ok (.aload_n 0, 1) := by decide +kernel
theorem d_T_bar_50 : decode b_T_bar 50 = .ok (.getfield 10, 3) := by decide +kernel
theorem d_T_bar_53 : decode b_T_bar 53 = .ok (.iload_n 1, 1) := by decide +kernel
theorem d_T_bar_54 : decode b_T_bar 54 = .ok (.iload_n 2, 1) := by decide +kernel
theorem d_T_bar_55 : decode b_T_bar 55 = .ok (.iload_n 3, 1) := by decide +kernel
theorem d_T_bar_56 : decode b_T_bar 56 = .ok (.invokevirtual 112, 3) := by decide +kernel
theorem d_T_bar_59 : decode b_T_bar 59 = .ok (.aload_n 0, 1) := by decide +kernel
theorem d_T_bar_60 : decode b_T_bar 60 = .ok (.invokevirtual 73, 3) := by decide +kernel
theorem d_T_bar_63 : decode b_T_bar 63 = .ok (.iconst 1, 1) := by decide +kernel
theorem d_T_bar_64 : decode b_T_bar 64 = .ok (.ireturn, 1) := by decide +kernel
theorem d_T_rest_0 : decode b_T_rest 0 = .ok (.iload_n 1, 1) := by decide +kernel
theorem d_T_rest_1 : decode b_T_rest 1 = .ok (.iconst 0, 1) := by decide +kernel
theorem d_T_rest_2 : decode b_T_rest 2 = .ok (.sipush 199, 3) := by decide +kernel
theorem d_T_rest_5 : decode b_T_rest 5 = .ok (.invokestatic 76, 3) := by decide +kernel
theorem d_T_rest_8 : decode b_T_rest 8 = .ok (.ifCond .eq 17, 3) := by decide +kernel
theorem d_T_rest_11 : decode b_T_rest 11 = .ok (.aload_n 0, 1) := by decide +kernel
theorem d_T_rest_12 : decode b_T_rest 12 = .ok (.getfield 10, 3) := by decide +kernel
theorem d_T_rest_15 : decode b_T_rest 15 = .ok (.getfield 115, 3) := by decide +kernel
theorem d_T_rest_18 : decode b_T_rest 18 = .ok (.iload_n 1, 1) := by decide +kernel
theorem d_T_rest_19 : decode b_T_rest 19 = .ok (.invokevirtual 119, 3) := by decide +kernel
theorem d_T_rest_22 : decode b_T_rest 22 = .ok (.ifCond .ne 5, 3) := by decide +kernel
theorem d_T_rest_25 : decode b_T_rest 25 = .ok (.iconst 0, 1) := by decide +kernel
theorem d_T_rest_26 : decode b_T_rest 26 = .ok (.ireturn, 1) := by decide +kernel
theorem d_T_rest_27 : decode b_T_rest 27 = .ok (.aload_n 0, 1) := by decide +kernel
theorem d_T_rest_28 : decode b_T_rest 28 = .ok (.getfield 10, 3) := by decide +kernel
theorem d_T_rest_31 : decode b_T_rest 31 = .ok (.getfield 115, 3) := by decide +kernel
theorem d_T_rest_34 : decode b_T_rest 34 = .ok (.iload_n 1, 1) := by decide +kernel
theorem d_T_rest_35 : decode b_T_rest 35 = .ok (.invokevirtual 124, 3) := by decide +kernel
theorem d_T_rest_38 : decode b_T_rest 38 = .ok (.aload_n 0, 1) := by decide +kernel
theorem d_T_rest_39 : decode b_T_rest 39 = .ok (.invokevirtual 73, 3) := by decide +kernel
theorem d_T_rest_42 : decode b_T_rest 42 = .ok (.iconst 1, 1) := by decide +kernel
theorem d_T_rest_43 : decode b_T_rest 43 = .ok (.ireturn, 1) := by decide +kernel
theorem d_T_most_0 : decode b_T_most 0 = .ok (.iload_n 1, 1) := by decide +kernel
theorem d_T_most_1 : decode b_T_most 1 = .ok (.invokestatic 61, 3) := by decide +kernel
theorem d_T_most_4 : decode b_T_most 4 = .ok (.ifCond .eq 13, 3) := by decide +kernel
theorem d_T_most_7 : decode b_T_most 7 = .ok (.iload_n 2, 1) := by decide +kernel
theorem d_T_most_8 : decode b_T_most 8 = .ok (.iconst 0, 1) := by decide +kernel
theorem d_T_most_9 : decode b_T_most 9 = .ok (.bipush 6, 2) := by decide +kernel
theorem d_T_most_11 : decode b_T_most 11 = .ok (.invokestatic 76, 3) := by decide +kernel
theorem d_T_most_14 : decode b_T_most 14 = .ok (.ifCond .ne 5, 3) := by decide +kernel
theorem d_T_most_17 : decode b_T_most 17 = .ok (.iconst (-1), 1) := by decide +kernel
theorem d_T_most_18 : decode b_T_most 18 = .ok (.ireturn, 1) := by decide +kernel
theorem d_T_most_19 : decode b_T_most 19 = .ok (.aload_n 0, 1) := by decide +kernel
theorem d_T_most_20 : decode b_T_most 20 = .ok (.getfield 10, 3) := by decide +kernel
theorem d_T_most_23 : decode b_T_most 23 = .ok (.getfield 128, 3) := by decide +kernel
theorem d_T_most_26 : decode b_T_most 26 = .ok (.iload_n 1, 1) := by decide +kernel
theorem d_T_most_27 : decode b_T_most 27 = .ok (.iaload, 1) := by decide +kernel
theorem d_T_most_28 : decode b_T_most 28 = .ok (.istore_n 3, 1) := by decide +kernel
theorem d_T_most_29 : decode b_T_most 29 = .ok (.aload_n 0, 1) := by decide +kernel
theorem d_T_most_30 : decode b_T_most 30 = .ok (.getfield 10, 3) := by decide +kernel
theorem d_T_most_33 : decode b_T_most 33 = .ok (.getfield 128, 3) := by decide +kernel
theorem d_T_most_36 : decode b_T_most 36 = .ok (.iload_n 1, 1) := by decide +kernel
theorem d_T_most_37 : decode b_T_most 37 = .ok (.iload_n 2, 1) := by decide +kernel
theorem d_T_most_38 : decode b_T_most 38 = .ok (.iastore, 1) := by decide +kernel
theorem d_T_most_39 : decode b_T_most 39 = .ok (.aload_n 0, 1) := by decide +kernel
theorem d_T_most_40 : decode b_T_most 40 = .ok (.invokevirtual 73, 3) := by decide +kernel
theorem d_T_most_43 : decode b_T_most 43 = .ok (.iload_n 3, 1) := by decide +kernel
theorem d_T_most_44 : decode b_T_most 44 = .ok (.ireturn, 1) := by decide +kernel
theorem d_T_learned_0 : decode b_T_learned 0 = .ok (.aload_n 0, 1) := by decide +kernel
theorem d_T_learned_1 : decode b_T_learned 1 = .ok (.iload_n 1, 1) := by decide +kernel
theorem d_T_learned_2 : decode b_T_learned 2 = .ok (.invokevirtual 87, 3) := by decide +kernel
theorem d_T_learned_5 : decode b_T_learned 5 = .ok (.ifCond .eq 25, 3) := by decide +kernel
theorem d_T_learned_8 : decode b_T_learned 8 = .ok (.iload_n 2, 1) := by decide +kernel
theorem d_T_learned_9 : decode b_T_learned 9 = .ok (.iconst 1, 1) := by decide +kernel
theorem d_T_learned_10 : decode b_T_learned 10 = .ok (.sipush 10000, 3) := by decide +kernel
theorem d_T_learned_13 : decode b_T_learned 13 = .ok (.invokestatic 76, 3) := by decide +kernel
theorem d_T_learned_16 : decode b_T_learned 16 = .ok (.ifCond .eq 14, 3) := by decide +kernel
theorem d_T_learned_19 : decode b_T_learned 19 = .ok (.iload_n 3, 1) := by decide +kernel
theorem d_T_learned_20 : decode b_T_learned 20 = .ok (.iconst 1, 1) := by decide +kernel
theorem d_T_learned_21 : decode b_T_learned 21 = .ok (.sipush 1000, 3) := by decide +kernel
theorem d_T_learned_24 : decode b_T_learned 24 = .ok (.invokestatic 76, 3) := by decide +kernel
theorem d_T_learned_27 : decode b_T_learned 27 = .ok (.ifCond .ne 5, 3) := by decide +kernel
theorem d_T_learned_30 : decode b_T_learned 30 = .ok (.iconst (-1), 1) := by decide +kernel
theorem d_T_learned_31 : decode b_T_learned 31 = .ok (.ireturn, 1) := by decide +kernel
theorem d_T_learned_32 : decode b_T_learned 32 = .ok (.aload_n 0, 1) := by decide +kernel
theorem d_T_learned_33 : decode b_T_learned 33 = .ok (.getfield 10, 3) := by decide +kernel
theorem d_T_learned_36 : decode b_T_learned 36 = .ok (.getfield 94, 3) := by decide +kernel
theorem d_T_learned_39 : decode b_T_learned 39 = .ok (.iload_n 1, 1) := by decide +kernel
theorem d_T_learned_40 : decode b_T_learned 40 = .ok (.aaload, 1) := by decide +kernel
theorem d_T_learned_41 : decode b_T_learned 41 = .ok (.astore 4, 2) := by decide +kernel
theorem d_T_learned_43 : decode b_T_learned 43 = .ok (.aload 4, 2) := by decide +kernel
theorem d_T_learned_45 : decode b_T_learned 45 = .ok (.iload_n 2, 1) := by decide +kernel
theorem d_T_learned_46 : decode b_T_learned 46 = .ok (.iload_n 3, 1) := by decide +kernel
theorem d_T_learned_47 : decode b_T_learned 47 = .ok (.idiv, 1) := by decide +kernel
theorem d_T_learned_48 : decode b_T_learned 48 = .ok (.invokevirtual 132, 3) := by decide +kernel
theorem d_T_learned_51 : decode b_T_learned 51 = .ok (.aload_n 0, 1) := by decide +kernel
theorem d_T_learned_52 : decode b_T_learned 52 = .ok (.invokevirtual 73, 3) := by decide +kernel
theorem d_T_learned_55 : decode b_T_learned 55 = .ok (.aload 4, 2) := by decide +kernel
theorem d_T_learned_57 : decode b_T_learned 57 = .ok (.getfield 135, 3) := by decide +kernel
theorem d_T_learned_60 : decode b_T_learned 60 = .ok (.ireturn, 1) := by decide +kernel
theorem d_T_run_0 : decode b_T_run 0 = .ok (.iload_n 1, 1) := by decide +kernel
theorem d_T_run_1 : decode b_T_run 1 = .ok (.iconst 1, 1) := by decide +kernel
theorem d_T_run_2 : decode b_T_run 2 = .ok (.sipush 20000, 3) := by decide +kernel
theorem d_T_run_5 : decode b_T_run 5 = .ok (.invokestatic 76, 3) := by decide +kernel
theorem d_T_run_8 : decode b_T_run 8 = .ok (.ifCond .eq 13, 3) := by decide +kernel
theorem d_T_run_11 : decode b_T_run 11 = .ok (.aload_n 0, 1) := by decide +kernel
theorem d_T_run_12 : decode b_T_run 12 = .ok (.getfield 10, 3) := by decide +kernel
theorem d_T_run_15 : decode b_T_run 15 = .ok (.getfield 80, 3) := by decide +kernel
theorem d_T_run_18 : decode b_T_run 18 = .ok (.ifCond .ne 5, 3) := by decide +kernel
theorem d_T_run_21 : decode b_T_run 21 = .ok (.iconst (-1), 1) := by decide +kernel
theorem d_T_run_22 : decode b_T_run 22 = .ok (.ireturn, 1) := by decide +kernel
theorem d_T_run_23 : decode b_T_run 23 = .ok (.aload_n 0, 1) := by decide +kernel
theorem d_T_run_24 : decode b_T_run 24 = .ok (.getfield 37, 3) := by decide +kernel
theorem d_T_run_27 : decode b_T_run 27 = .ok (.iload_n 1, 1) := by decide +kernel
theorem d_T_run_28 : decode b_T_run 28 = .ok (.iconst 0, 1) := by decide +kernel
theorem d_T_run_29 : decode b_T_run 29 = .ok (.invokevirtual 138, 3) := by decide +kernel
theorem d_T_run_32 : decode b_T_run 32 = .ok (.aload_n 0, 1) := by decide +kernel
theorem d_T_run_33 : decode b_T_run 33 = .ok (.iconst 0, 1) := by decide +kernel
theorem d_T_run_34 : decode b_T_run 34 = .ok (.invokevirtual 142, 3) := by decide +kernel
theorem d_T_run_37 : decode b_T_run 37 = .ok (.ifCond .eq 10, 3) := by decide +kernel
theorem d_T_run_40 : decode b_T_run 40 = .ok (.aload_n 0, 1) := by decide +kernel
theorem d_T_run_41 : decode b_T_run 41 = .ok (.getfield 146, 3) := by decide +kernel
theorem d_T_run_44 : decode b_T_run 44 = .ok (.goto 4, 3) := by decide +kernel
theorem d_T_run_47 : decode b_T_run 47 = .ok (.iconst (-1), 1) := by decide +kernel
theorem d_T_run_48 : decode b_T_run 48 = .ok (.ireturn, 1) := by decide +kernel
theorem d_T_proved_0 : decode b_T_proved 0 = .ok (.aload_n 0, 1) := by decide +kernel
theorem d_T_proved_1 : decode b_T_proved 1 = .ok (.getfield 149, 3) := by decide +kernel
theorem d_T_proved_4 : decode b_T_proved 4 = .ok (.ireturn, 1) := by decide +kernel
theorem d_T_tried_0 : decode b_T_tried 0 = .ok (.aload_n 0, 1) := by decide +kernel
theorem d_T_tried_1 : decode b_T_tried 1 = .ok (.getfield 153, 3) := by decide +kernel
theorem d_T_tried_4 : decode b_T_tried 4 = .ok (.ireturn, 1) := by decide +kernel
theorem d_T_told_0 : decode b_T_told 0 = .ok (.aload_n 0, 1) := by decide +kernel
theorem d_T_told_1 : decode b_T_told 1 = .ok (.iload_n 1, 1) := by decide +kernel
theorem d_T_told_2 : decode b_T_told 2 = .ok (.invokevirtual 156, 3) := by decide +kernel
theorem d_T_told_5 : decode b_T_told 5 = .ok (.ifCond .ne 5, 3) := by decide +kernel
theorem d_T_told_8 : decode b_T_told 8 = .ok (.iconst (-1), 1) := by decide +kernel
theorem d_T_told_9 : decode b_T_told 9 = .ok (.ireturn, 1) := by decide +kernel
theorem d_T_told_10 : decode b_T_told 10 = .ok (.iload_n 2, 1) := by decide +kernel
theorem d_T_told_11 : decode b_T_told 11 = .ok (.tableswitch 63 0 2 #[25, 35, 53], 25) := by decide +kernel
theorem d_T_told_36 : decode b_T_told 36 = .ok (.aload_n 0, 1) := by decide +kernel
theorem d_T_told_37 : decode b_T_told 37 = .ok (.getfield 28, 3) := by decide +kernel
theorem d_T_told_40 : decode b_T_told 40 = .ok (.getfield 159, 3) := by decide +kernel
theorem d_T_told_43 : decode b_T_told 43 = .ok (.iload_n 1, 1) := by decide +kernel
theorem d_T_told_44 : decode b_T_told 44 = .ok (.iaload, 1) := by decide +kernel
theorem d_T_told_45 : decode b_T_told 45 = .ok (.ireturn, 1) := by decide +kernel
theorem d_T_told_46 : decode b_T_told 46 = .ok (.aload_n 0, 1) := by decide +kernel
theorem d_T_told_47 : decode b_T_told 47 = .ok (.getfield 10, 3) := by decide +kernel
theorem d_T_told_50 : decode b_T_told 50 = .ok (.iload_n 1, 1) := by decide +kernel
theorem d_T_told_51 : decode b_T_told 51 = .ok (.aload_n 0, 1) := by decide +kernel
theorem d_T_told_52 : decode b_T_told 52 = .ok (.getfield 28, 3) := by decide +kernel
theorem d_T_told_55 : decode b_T_told 55 = .ok (.getfield 159, 3) := by decide +kernel
theorem d_T_told_58 : decode b_T_told 58 = .ok (.iload_n 1, 1) := by decide +kernel
theorem d_T_told_59 : decode b_T_told 59 = .ok (.iaload, 1) := by decide +kernel
theorem d_T_told_60 : decode b_T_told 60 = .ok (.invokevirtual 162, 3) := by decide +kernel
theorem d_T_told_63 : decode b_T_told 63 = .ok (.ireturn, 1) := by decide +kernel
theorem d_T_told_64 : decode b_T_told 64 = .ok (.aload_n 0, 1) := by decide +kernel
theorem d_T_told_65 : decode b_T_told 65 = .ok (.getfield 28, 3) := by decide +kernel
theorem d_T_told_68 : decode b_T_told 68 = .ok (.getfield 166, 3) := by decide +kernel
theorem d_T_told_71 : decode b_T_told 71 = .ok (.iload_n 1, 1) := by decide +kernel
theorem d_T_told_72 : decode b_T_told 72 = .ok (.iaload, 1) := by decide +kernel
theorem d_T_told_73 : decode b_T_told 73 = .ok (.ireturn, 1) := by decide +kernel
theorem d_T_told_74 : decode b_T_told 74 = .ok (.iconst (-1), 1) := by decide +kernel
theorem d_T_told_75 : decode b_T_told 75 = .ok (.ireturn, 1) := by decide +kernel
theorem d_T_at_0 : decode b_T_at 0 = .ok (.aload_n 0, 1) := by decide +kernel
theorem d_T_at_1 : decode b_T_at 1 = .ok (.iload_n 1, 1) := by decide +kernel
theorem d_T_at_2 : decode b_T_at 2 = .ok (.invokevirtual 156, 3) := by decide +kernel
theorem d_T_at_5 : decode b_T_at 5 = .ok (.ifCond .eq 7, 3) := by decide +kernel
theorem d_T_at_8 : decode b_T_at 8 = .ok (.iload_n 2, 1) := by decide +kernel
theorem d_T_at_9 : decode b_T_at 9 = .ok (.ifCond .ge 5, 3) := by decide +kernel
theorem d_T_at_12 : decode b_T_at 12 = .ok (.iconst (-1), 1) := by decide +kernel
theorem d_T_at_13 : decode b_T_at 13 = .ok (.ireturn, 1) := by decide +kernel
theorem d_T_at_14 : decode b_T_at 14 = .ok (.aload_n 0, 1) := by decide +kernel
theorem d_T_at_15 : decode b_T_at 15 = .ok (.getfield 10, 3) := by decide +kernel
theorem d_T_at_18 : decode b_T_at 18 = .ok (.iload_n 1, 1) := by decide +kernel
theorem d_T_at_19 : decode b_T_at 19 = .ok (.aload_n 0, 1) := by decide +kernel
theorem d_T_at_20 : decode b_T_at 20 = .ok (.getfield 28, 3) := by decide +kernel
theorem d_T_at_23 : decode b_T_at 23 = .ok (.iload_n 2, 1) := by decide +kernel
theorem d_T_at_24 : decode b_T_at 24 = .ok (.invokevirtual 169, 3) := by decide +kernel
theorem d_T_at_27 : decode b_T_at 27 = .ok (.ireturn, 1) := by decide +kernel
theorem d_T_passes_0 : decode b_T_passes 0 = .ok (.aload_n 0, 1) := by decide +kernel
theorem d_T_passes_1 : decode b_T_passes 1 = .ok (.iload_n 1, 1) := by decide +kernel
theorem d_T_passes_2 : decode b_T_passes 2 = .ok (.invokevirtual 156, 3) := by decide +kernel
theorem d_T_passes_5 : decode b_T_passes 5 = .ok (.ifCond .eq 29, 3) := by decide +kernel
theorem d_T_passes_8 : decode b_T_passes 8 = .ok (.aload_n 0, 1) := by decide +kernel
theorem d_T_passes_9 : decode b_T_passes 9 = .ok (.getfield 10, 3) := by decide +kernel
theorem d_T_passes_12 : decode b_T_passes 12 = .ok (.getfield 94, 3) := by decide +kernel
theorem d_T_passes_15 : decode b_T_passes 15 = .ok (.iload_n 1, 1) := by decide +kernel
theorem d_T_passes_16 : decode b_T_passes 16 = .ok (.aaload, 1) := by decide +kernel
theorem d_T_passes_17 : decode b_T_passes 17 = .ok (.iload_n 2, 1) := by decide +kernel
theorem d_T_passes_18 : decode b_T_passes 18 = .ok (.invokevirtual 106, 3) := by decide +kernel
theorem d_T_passes_21 : decode b_T_passes 21 = .ok (.ifCond .eq 13, 3) := by decide +kernel
theorem d_T_passes_24 : decode b_T_passes 24 = .ok (.iload 4, 2) := by decide +kernel
theorem d_T_passes_26 : decode b_T_passes 26 = .ok (.iconst 0, 1) := by decide +kernel
theorem d_T_passes_27 : decode b_T_passes 27 = .ok (.iconst 1, 1) := by decide +kernel
theorem d_T_passes_28 : decode b_T_passes 28 = .ok (.invokestatic 76, 3) := by decide +kernel
theorem d_T_passes_31 : decode b_T_passes 31 = .ok (.ifCond .ne 5, 3) := by decide +kernel
theorem d_T_passes_34 : decode b_T_passes 34 = .ok (.iconst (-1), 1) := by decide +kernel
theorem d_T_passes_35 : decode b_T_passes 35 = .ok (.ireturn, 1) := by decide +kernel
theorem d_T_passes_36 : decode b_T_passes 36 = .ok (.aload_n 0, 1) := by decide +kernel
theorem d_T_passes_37 : decode b_T_passes 37 = .ok (.getfield 10, 3) := by decide +kernel
theorem d_T_passes_40 : decode b_T_passes 40 = .ok (.iload_n 1, 1) := by decide +kernel
theorem d_T_passes_41 : decode b_T_passes 41 = .ok (.aload_n 0, 1) := by decide +kernel
theorem d_T_passes_42 : decode b_T_passes 42 = .ok (.getfield 28, 3) := by decide +kernel
theorem d_T_passes_45 : decode b_T_passes 45 = .ok (.iload_n 2, 1) := by decide +kernel
theorem d_T_passes_46 : decode b_T_passes 46 = .ok (.iload_n 3, 1) := by decide +kernel
theorem d_T_passes_47 : decode b_T_passes 47 = .ok (.invokevirtual 173, 3) := by decide +kernel
theorem d_T_passes_50 : decode b_T_passes 50 = .ok (.istore 5, 2) := by decide +kernel
theorem d_T_passes_52 : decode b_T_passes 52 = .ok (.aload_n 0, 1) := by decide +kernel
theorem d_T_passes_53 : decode b_T_passes 53 = .ok (.getfield 10, 3) := by decide +kernel
theorem d_T_passes_56 : decode b_T_passes 56 = .ok (.getfield 94, 3) := by decide +kernel
theorem d_T_passes_59 : decode b_T_passes 59 = .ok (.iload_n 1, 1) := by decide +kernel
theorem d_T_passes_60 : decode b_T_passes 60 = .ok (.aaload, 1) := by decide +kernel
theorem d_T_passes_61 : decode b_T_passes 61 = .ok (.getfield 135, 3) := by decide +kernel
theorem d_T_passes_64 : decode b_T_passes 64 = .ok (.istore 6, 2) := by decide +kernel
theorem d_T_passes_66 : decode b_T_passes 66 = .ok (.iload 5, 2) := by decide +kernel
theorem d_T_passes_68 : decode b_T_passes 68 = .ok (.iload 6, 2) := by decide +kernel
theorem d_T_passes_70 : decode b_T_passes 70 = .ok (.invokestatic 177, 3) := by decide +kernel
theorem d_T_passes_73 : decode b_T_passes 73 = .ok (.istore 7, 2) := by decide +kernel
theorem d_T_passes_75 : decode b_T_passes 75 = .ok (.iload 7, 2) := by decide +kernel
theorem d_T_passes_77 : decode b_T_passes 77 = .ok (.iconst 1, 1) := by decide +kernel
theorem d_T_passes_78 : decode b_T_passes 78 = .ok (.if_icmp .ge 7, 3) := by decide +kernel
theorem d_T_passes_81 : decode b_T_passes 81 = .ok (.iconst (-1), 1) := by decide +kernel
theorem d_T_passes_82 : decode b_T_passes 82 = .ok (.goto 18, 3) := by decide +kernel
theorem d_T_passes_85 : decode b_T_passes 85 = .ok (.iload 4, 2) := by decide +kernel
theorem d_T_passes_87 : decode b_T_passes 87 = .ok (.ifCond .ne 8, 3) := by decide +kernel
theorem d_T_passes_90 : decode b_T_passes 90 = .ok (.iload 5, 2) := by decide +kernel
theorem d_T_passes_92 : decode b_T_passes 92 = .ok (.goto 5, 3) := by decide +kernel
theorem d_T_passes_95 : decode b_T_passes 95 = .ok (.iload 6, 2) := by decide +kernel
theorem d_T_passes_97 : decode b_T_passes 97 = .ok (.iload 7, 2) := by decide +kernel
theorem d_T_passes_99 : decode b_T_passes 99 = .ok (.idiv, 1) := by decide +kernel
theorem d_T_passes_100 : decode b_T_passes 100 = .ok (.ireturn, 1) := by decide +kernel
theorem d_T_crosses_0 : decode b_T_crosses 0 = .ok (.aload_n 0, 1) := by decide +kernel
theorem d_T_crosses_1 : decode b_T_crosses 1 = .ok (.iload_n 1, 1) := by decide +kernel
theorem d_T_crosses_2 : decode b_T_crosses 2 = .ok (.invokevirtual 156, 3) := by decide +kernel
theorem d_T_crosses_5 : decode b_T_crosses 5 = .ok (.ifCond .eq 11, 3) := by decide +kernel
theorem d_T_crosses_8 : decode b_T_crosses 8 = .ok (.aload_n 0, 1) := by decide +kernel
theorem d_T_crosses_9 : decode b_T_crosses 9 = .ok (.iload_n 2, 1) := by decide +kernel
theorem d_T_crosses_10 : decode b_T_crosses 10 = .ok (.invokevirtual 156, 3) := by decide +kernel
theorem d_T_crosses_13 : decode b_T_crosses 13 = .ok (.ifCond .ne 5, 3) := by decide +kernel
theorem d_T_crosses_16 : decode b_T_crosses 16 = .ok (.iconst 0, 1) := by decide +kernel
theorem d_T_crosses_17 : decode b_T_crosses 17 = .ok (.ireturn, 1) := by decide +kernel
theorem d_T_crosses_18 : decode b_T_crosses 18 = .ok (.iconst 0, 1) := by decide +kernel
theorem d_T_crosses_19 : decode b_T_crosses 19 = .ok (.istore_n 3, 1) := by decide +kernel
theorem d_T_crosses_20 : decode b_T_crosses 20 = .ok (.iconst 0, 1) := by decide +kernel
theorem d_T_crosses_21 : decode b_T_crosses 21 = .ok (.istore 4, 2) := by decide +kernel
theorem d_T_crosses_23 : decode b_T_crosses 23 = .ok (.aload_n 0, 1) := by decide +kernel
theorem d_T_crosses_24 : decode b_T_crosses 24 = .ok (.getfield 10, 3) := by decide +kernel
theorem d_T_crosses_27 : decode b_T_crosses 27 = .ok (.iload_n 1, 1) := by decide +kernel
theorem d_T_crosses_28 : decode b_T_crosses 28 = .ok (.iload_n 2, 1) := by decide +kernel
theorem d_T_crosses_29 : decode b_T_crosses 29 = .ok (.invokevirtual 180, 3) := by decide +kernel
theorem d_T_crosses_32 : decode b_T_crosses 32 = .ok (.istore 5, 2) := by decide +kernel
theorem d_T_crosses_34 : decode b_T_crosses 34 = .ok (.aload_n 0, 1) := by decide +kernel
theorem d_T_crosses_35 : decode b_T_crosses 35 = .ok (.getfield 10, 3) := by decide +kernel
theorem d_T_crosses_38 : decode b_T_crosses 38 = .ok (.iload_n 1, 1) := by decide +kernel
theorem d_T_crosses_39 : decode b_T_crosses 39 = .ok (.iload_n 2, 1) := by decide +kernel
theorem d_T_crosses_40 : decode b_T_crosses 40 = .ok (.invokevirtual 183, 3) := by decide +kernel
theorem d_T_crosses_43 : decode b_T_crosses 43 = .ok (.istore 6, 2) := by decide +kernel
theorem d_T_crosses_45 : decode b_T_crosses 45 = .ok (.iload 6, 2) := by decide +kernel
theorem d_T_crosses_47 : decode b_T_crosses 47 = .ok (.iload 5, 2) := by decide +kernel
theorem d_T_crosses_49 : decode b_T_crosses 49 = .ok (.if_icmp .gt 105, 3) := by decide +kernel
theorem d_T_crosses_52 : decode b_T_crosses 52 = .ok (.aload_n 0, 1) := by decide +kernel
theorem d_T_crosses_53 : decode b_T_crosses 53 = .ok (.getfield 10, 3) := by decide +kernel
theorem d_T_crosses_56 : decode b_T_crosses 56 = .ok (.iload_n 1, 1) := by decide +kernel
theorem d_T_crosses_57 : decode b_T_crosses 57 = .ok (.aload_n 0, 1) := by decide +kernel
theorem d_T_crosses_58 : decode b_T_crosses 58 = .ok (.getfield 28, 3) := by decide +kernel
theorem d_T_crosses_61 : decode b_T_crosses 61 = .ok (.iload 6, 2) := by decide +kernel
theorem d_T_crosses_63 : decode b_T_crosses 63 = .ok (.iconst 0, 1) := by decide +kernel
theorem d_T_crosses_64 : decode b_T_crosses 64 = .ok (.invokevirtual 173, 3) := by decide +kernel
theorem d_T_crosses_67 : decode b_T_crosses 67 = .ok (.aload_n 0, 1) := by decide +kernel
theorem d_T_crosses_68 : decode b_T_crosses 68 = .ok (.getfield 10, 3) := by decide +kernel
theorem d_T_crosses_71 : decode b_T_crosses 71 = .ok (.getfield 94, 3) := by decide +kernel
theorem d_T_crosses_74 : decode b_T_crosses 74 = .ok (.iload_n 2, 1) := by decide +kernel
theorem d_T_crosses_75 : decode b_T_crosses 75 = .ok (.aaload, 1) := by decide +kernel
theorem d_T_crosses_76 : decode b_T_crosses 76 = .ok (.getfield 135, 3) := by decide +kernel
theorem d_T_crosses_79 : decode b_T_crosses 79 = .ok (.imul, 1) := by decide +kernel
theorem d_T_crosses_80 : decode b_T_crosses 80 = .ok (.istore 7, 2) := by decide +kernel
theorem d_T_crosses_82 : decode b_T_crosses 82 = .ok (.aload_n 0, 1) := by decide +kernel
theorem d_T_crosses_83 : decode b_T_crosses 83 = .ok (.getfield 10, 3) := by decide +kernel
theorem d_T_crosses_86 : decode b_T_crosses 86 = .ok (.iload_n 2, 1) := by decide +kernel
theorem d_T_crosses_87 : decode b_T_crosses 87 = .ok (.aload_n 0, 1) := by decide +kernel
theorem d_T_crosses_88 : decode b_T_crosses 88 = .ok (.getfield 28, 3) := by decide +kernel
theorem d_T_crosses_91 : decode b_T_crosses 91 = .ok (.iload 6, 2) := by decide +kernel
theorem d_T_crosses_93 : decode b_T_crosses 93 = .ok (.iconst 0, 1) := by decide +kernel
theorem d_T_crosses_94 : decode b_T_crosses 94 = .ok (.invokevirtual 173, 3) := by decide +kernel
theorem d_T_crosses_97 : decode b_T_crosses 97 = .ok (.aload_n 0, 1) := by decide +kernel
theorem d_T_crosses_98 : decode b_T_crosses 98 = .ok (.getfield 10, 3) := by decide +kernel
theorem d_T_crosses_101 : decode b_T_crosses 101 = .ok (.getfield 94, 3) := by decide +kernel
theorem d_T_crosses_104 : decode b_T_crosses 104 = .ok (.iload_n 1, 1) := by decide +kernel
theorem d_T_crosses_105 : decode b_T_crosses 105 = .ok (.aaload, 1) := by decide +kernel
theorem d_T_crosses_106 : decode b_T_crosses 106 = .ok (.getfield 135, 3) := by decide +kernel
theorem d_T_crosses_109 : decode b_T_crosses 109 = .ok (.imul, 1) := by decide +kernel
theorem d_T_crosses_110 : decode b_T_crosses 110 = .ok (.istore 8, 2) := by decide +kernel
theorem d_T_crosses_112 : decode b_T_crosses 112 = .ok (.iload_n 3, 1) := by decide +kernel
theorem d_T_crosses_113 : decode b_T_crosses 113 = .ok (.ifCond .ne 10, 3) := by decide +kernel
theorem d_T_crosses_116 : decode b_T_crosses 116 = .ok (.iload 7, 2) := by decide +kernel
theorem d_T_crosses_118 : decode b_T_crosses 118 = .ok (.iload 8, 2) := by decide +kernel
theorem d_T_crosses_120 : decode b_T_crosses 120 = .ok (.if_icmp .ge 7, 3) := by decide +kernel
theorem d_T_crosses_123 : decode b_T_crosses 123 = .ok (.iconst 1, 1) := by decide +kernel
theorem d_T_crosses_124 : decode b_T_crosses 124 = .ok (.goto 4, 3) := by decide +kernel
theorem d_T_crosses_127 : decode b_T_crosses 127 = .ok (.iconst 0, 1) := by decide +kernel
theorem d_T_crosses_128 : decode b_T_crosses 128 = .ok (.istore_n 3, 1) := by decide +kernel
theorem d_T_crosses_129 : decode b_T_crosses 129 = .ok (.iload 4, 2) := by decide +kernel
theorem d_T_crosses_131 : decode b_T_crosses 131 = .ok (.ifCond .ne 10, 3) := by decide +kernel
theorem d_T_crosses_134 : decode b_T_crosses 134 = .ok (.iload 8, 2) := by decide +kernel
theorem d_T_crosses_136 : decode b_T_crosses 136 = .ok (.iload 7, 2) := by decide +kernel
theorem d_T_crosses_138 : decode b_T_crosses 138 = .ok (.if_icmp .ge 7, 3) := by decide +kernel
theorem d_T_crosses_141 : decode b_T_crosses 141 = .ok (.iconst 1, 1) := by decide +kernel
theorem d_T_crosses_142 : decode b_T_crosses 142 = .ok (.goto 4, 3) := by decide +kernel
theorem d_T_crosses_145 : decode b_T_crosses 145 = .ok (.iconst 0, 1) := by decide +kernel
theorem d_T_crosses_146 : decode b_T_crosses 146 = .ok (.istore 4, 2) := by decide +kernel
theorem d_T_crosses_148 : decode b_T_crosses 148 = .ok (.iinc 6 1, 3) := by decide +kernel
theorem d_T_crosses_151 : decode b_T_crosses 151 = .ok (.goto (-106), 3) := by decide +kernel
theorem d_T_crosses_154 : decode b_T_crosses 154 = .ok (.iload_n 3, 1) := by decide +kernel
theorem d_T_crosses_155 : decode b_T_crosses 155 = .ok (.ifCond .eq 12, 3) := by decide +kernel
theorem d_T_crosses_158 : decode b_T_crosses 158 = .ok (.iload 4, 2) := by decide +kernel
theorem d_T_crosses_160 : decode b_T_crosses 160 = .ok (.ifCond .eq 7, 3) := by decide +kernel
theorem d_T_crosses_163 : decode b_T_crosses 163 = .ok (.iconst 1, 1) := by decide +kernel
theorem d_T_crosses_164 : decode b_T_crosses 164 = .ok (.goto 4, 3) := by decide +kernel
theorem d_T_crosses_167 : decode b_T_crosses 167 = .ok (.iconst 0, 1) := by decide +kernel
theorem d_T_crosses_168 : decode b_T_crosses 168 = .ok (.ireturn, 1) := by decide +kernel
theorem d_T_under_0 : decode b_T_under 0 = .ok (.aload_n 0, 1) := by decide +kernel
theorem d_T_under_1 : decode b_T_under 1 = .ok (.getfield 186, 3) := by decide +kernel
theorem d_T_under_4 : decode b_T_under 4 = .ok (.ifCond .eq 14, 3) := by decide +kernel
theorem d_T_under_7 : decode b_T_under 7 = .ok (.iload_n 1, 1) := by decide +kernel
theorem d_T_under_8 : decode b_T_under 8 = .ok (.invokestatic 61, 3) := by decide +kernel
theorem d_T_under_11 : decode b_T_under 11 = .ok (.ifCond .eq 7, 3) := by decide +kernel
theorem d_T_under_14 : decode b_T_under 14 = .ok (.iload_n 2, 1) := by decide +kernel
theorem d_T_under_15 : decode b_T_under 15 = .ok (.ifCond .ge 5, 3) := by decide +kernel
theorem d_T_under_18 : decode b_T_under 18 = .ok (.iconst (-1), 1) := by decide +kernel
theorem d_T_under_19 : decode b_T_under 19 = .ok (.ireturn, 1) := by decide +kernel
theorem d_T_under_20 : decode b_T_under 20 = .ok (.aload_n 0, 1) := by decide +kernel
theorem d_T_under_21 : decode b_T_under 21 = .ok (.getfield 10, 3) := by decide +kernel
theorem d_T_under_24 : decode b_T_under 24 = .ok (.getfield 115, 3) := by decide +kernel
theorem d_T_under_27 : decode b_T_under 27 = .ok (.iload_n 2, 1) := by decide +kernel
theorem d_T_under_28 : decode b_T_under 28 = .ok (.invokevirtual 119, 3) := by decide +kernel
theorem d_T_under_31 : decode b_T_under 31 = .ok (.ifCond .ne 5, 3) := by decide +kernel
theorem d_T_under_34 : decode b_T_under 34 = .ok (.iconst 0, 1) := by decide +kernel
theorem d_T_under_35 : decode b_T_under 35 = .ok (.ireturn, 1) := by decide +kernel
theorem d_T_under_36 : decode b_T_under 36 = .ok (.iconst 0, 1) := by decide +kernel
theorem d_T_under_37 : decode b_T_under 37 = .ok (.istore_n 3, 1) := by decide +kernel
theorem d_T_under_38 : decode b_T_under 38 = .ok (.iconst 0, 1) := by decide +kernel
theorem d_T_under_39 : decode b_T_under 39 = .ok (.istore 4, 2) := by decide +kernel
theorem d_T_under_41 : decode b_T_under 41 = .ok (.iload 4, 2) := by decide +kernel
theorem d_T_under_43 : decode b_T_under 43 = .ok (.aload_n 0, 1) := by decide +kernel
theorem d_T_under_44 : decode b_T_under 44 = .ok (.getfield 10, 3) := by decide +kernel
theorem d_T_under_47 : decode b_T_under 47 = .ok (.getfield 80, 3) := by decide +kernel
theorem d_T_under_50 : decode b_T_under 50 = .ok (.if_icmp .ge 62, 3) := by decide +kernel
theorem d_T_under_53 : decode b_T_under 53 = .ok (.aload_n 0, 1) := by decide +kernel
theorem d_T_under_54 : decode b_T_under 54 = .ok (.getfield 28, 3) := by decide +kernel
theorem d_T_under_57 : decode b_T_under 57 = .ok (.getfield 159, 3) := by decide +kernel
theorem d_T_under_60 : decode b_T_under 60 = .ok (.iload 4, 2) := by decide +kernel
theorem d_T_under_62 : decode b_T_under 62 = .ok (.iaload, 1) := by decide +kernel
theorem d_T_under_63 : decode b_T_under 63 = .ok (.istore 5, 2) := by decide +kernel
theorem d_T_under_65 : decode b_T_under 65 = .ok (.aload_n 0, 1) := by decide +kernel
theorem d_T_under_66 : decode b_T_under 66 = .ok (.getfield 10, 3) := by decide +kernel
theorem d_T_under_69 : decode b_T_under 69 = .ok (.getfield 94, 3) := by decide +kernel
theorem d_T_under_72 : decode b_T_under 72 = .ok (.iload 4, 2) := by decide +kernel
theorem d_T_under_74 : decode b_T_under 74 = .ok (.aaload, 1) := by decide +kernel
theorem d_T_under_75 : decode b_T_under 75 = .ok (.getfield 189, 3) := by decide +kernel
theorem d_T_under_78 : decode b_T_under 78 = .ok (.iload_n 1, 1) := by decide +kernel
theorem d_T_under_79 : decode b_T_under 79 = .ok (.if_icmp .ne 27, 3) := by decide +kernel
theorem d_T_under_82 : decode b_T_under 82 = .ok (.iload 5, 2) := by decide +kernel
theorem d_T_under_84 : decode b_T_under 84 = .ok (.iload_n 2, 1) := by decide +kernel
theorem d_T_under_85 : decode b_T_under 85 = .ok (.if_icmp .gt 21, 3) := by decide +kernel
theorem d_T_under_88 : decode b_T_under 88 = .ok (.iload_n 2, 1) := by decide +kernel
theorem d_T_under_89 : decode b_T_under 89 = .ok (.aload_n 0, 1) := by decide +kernel
theorem d_T_under_90 : decode b_T_under 90 = .ok (.getfield 10, 3) := by decide +kernel
theorem d_T_under_93 : decode b_T_under 93 = .ok (.iload 4, 2) := by decide +kernel
theorem d_T_under_95 : decode b_T_under 95 = .ok (.iload 5, 2) := by decide +kernel
theorem d_T_under_97 : decode b_T_under 97 = .ok (.invokevirtual 162, 3) := by decide +kernel
theorem d_T_under_100 : decode b_T_under 100 = .ok (.if_icmp .ge 6, 3) := by decide +kernel
theorem d_T_under_103 : decode b_T_under 103 = .ok (.iinc 3 1, 3) := by decide +kernel
theorem d_T_under_106 : decode b_T_under 106 = .ok (.iinc 4 1, 3) := by decide +kernel
theorem d_T_under_109 : decode b_T_under 109 = .ok (.goto (-68), 3) := by decide +kernel
theorem d_T_under_112 : decode b_T_under 112 = .ok (.iload_n 3, 1) := by decide +kernel
theorem d_T_under_113 : decode b_T_under 113 = .ok (.ireturn, 1) := by decide +kernel
theorem d_T_bound_0 : decode b_T_bound 0 = .ok (.iconst 0, 1) := by decide +kernel
theorem d_T_bound_1 : decode b_T_bound 1 = .ok (.istore_n 1, 1) := by decide +kernel
theorem d_T_bound_2 : decode b_T_bound 2 = .ok (.iconst 0, 1) := by decide +kernel
theorem d_T_bound_3 : decode b_T_bound 3 = .ok (.istore_n 2, 1) := by decide +kernel
theorem d_T_bound_4 : decode b_T_bound 4 = .ok (.iload_n 2, 1) := by decide +kernel
theorem d_T_bound_5 : decode b_T_bound 5 = .ok (.aload_n 0, 1) := by decide +kernel
theorem d_T_bound_6 : decode b_T_bound 6 = .ok (.getfield 10, 3) := by decide +kernel
theorem d_T_bound_9 : decode b_T_bound 9 = .ok (.getfield 65, 3) := by decide +kernel
theorem d_T_bound_12 : decode b_T_bound 12 = .ok (.if_icmp .ge 22, 3) := by decide +kernel
theorem d_T_bound_15 : decode b_T_bound 15 = .ok (.iload_n 1, 1) := by decide +kernel
theorem d_T_bound_16 : decode b_T_bound 16 = .ok (.aload_n 0, 1) := by decide +kernel
theorem d_T_bound_17 : decode b_T_bound 17 = .ok (.getfield 10, 3) := by decide +kernel
theorem d_T_bound_20 : decode b_T_bound 20 = .ok (.iload_n 2, 1) := by decide +kernel
theorem d_T_bound_21 : decode b_T_bound 21 = .ok (.invokevirtual 192, 3) := by decide +kernel
theorem d_T_bound_24 : decode b_T_bound 24 = .ok (.invokestatic 195, 3) := by decide +kernel
theorem d_T_bound_27 : decode b_T_bound 27 = .ok (.istore_n 1, 1) := by decide +kernel
theorem d_T_bound_28 : decode b_T_bound 28 = .ok (.iinc 2 1, 3) := by decide +kernel
theorem d_T_bound_31 : decode b_T_bound 31 = .ok (.goto (-27), 3) := by decide +kernel
theorem d_T_bound_34 : decode b_T_bound 34 = .ok (.iload_n 1, 1) := by decide +kernel
theorem d_T_bound_35 : decode b_T_bound 35 = .ok (.ireturn, 1) := by decide +kernel
theorem d_T_lone_0 : decode b_T_lone 0 = .ok (.iconst 0, 1) := by decide +kernel
theorem d_T_lone_1 : decode b_T_lone 1 = .ok (.istore_n 2, 1) := by decide +kernel
theorem d_T_lone_2 : decode b_T_lone 2 = .ok (.iconst 0, 1) := by decide +kernel
theorem d_T_lone_3 : decode b_T_lone 3 = .ok (.istore_n 3, 1) := by decide +kernel
theorem d_T_lone_4 : decode b_T_lone 4 = .ok (.iload_n 3, 1) := by decide +kernel
theorem d_T_lone_5 : decode b_T_lone 5 = .ok (.aload_n 0, 1) := by decide +kernel
theorem d_T_lone_6 : decode b_T_lone 6 = .ok (.getfield 10, 3) := by decide +kernel
theorem d_T_lone_9 : decode b_T_lone 9 = .ok (.getfield 80, 3) := by decide +kernel
theorem d_T_lone_12 : decode b_T_lone 12 = .ok (.if_icmp .ge 30, 3) := by decide +kernel
theorem d_T_lone_15 : decode b_T_lone 15 = .ok (.aload_n 0, 1) := by decide +kernel
theorem d_T_lone_16 : decode b_T_lone 16 = .ok (.getfield 21, 3) := by decide +kernel
theorem d_T_lone_19 : decode b_T_lone 19 = .ok (.iload_n 3, 1) := by decide +kernel
theorem d_T_lone_20 : decode b_T_lone 20 = .ok (.invokevirtual 200, 3) := by decide +kernel
theorem d_T_lone_23 : decode b_T_lone 23 = .ok (.ifCond .ne 13, 3) := by decide +kernel
theorem d_T_lone_26 : decode b_T_lone 26 = .ok (.iload_n 2, 1) := by decide +kernel
theorem d_T_lone_27 : decode b_T_lone 27 = .ok (.iload_n 1, 1) := by decide +kernel
theorem d_T_lone_28 : decode b_T_lone 28 = .ok (.if_icmp .ne 5, 3) := by decide +kernel
theorem d_T_lone_31 : decode b_T_lone 31 = .ok (.iload_n 3, 1) := by decide +kernel
theorem d_T_lone_32 : decode b_T_lone 32 = .ok (.ireturn, 1) := by decide +kernel
theorem d_T_lone_33 : decode b_T_lone 33 = .ok (.iinc 2 1, 3) := by decide +kernel
theorem d_T_lone_36 : decode b_T_lone 36 = .ok (.iinc 3 1, 3) := by decide +kernel
theorem d_T_lone_39 : decode b_T_lone 39 = .ok (.goto (-35), 3) := by decide +kernel
theorem d_T_lone_42 : decode b_T_lone 42 = .ok (.iconst (-1), 1) := by decide +kernel
theorem d_T_lone_43 : decode b_T_lone 43 = .ok (.ireturn, 1) := by decide +kernel
theorem d_T_late_0 : decode b_T_late 0 = .ok (.aload_n 0, 1) := by decide +kernel
theorem d_T_late_1 : decode b_T_late 1 = .ok (.iload_n 1, 1) := by decide +kernel
theorem d_T_late_2 : decode b_T_late 2 = .ok (.invokevirtual 156, 3) := by decide +kernel
theorem d_T_late_5 : decode b_T_late 5 = .ok (.ifCond .eq 13, 3) := by decide +kernel
theorem d_T_late_8 : decode b_T_late 8 = .ok (.iload_n 2, 1) := by decide +kernel
theorem d_T_late_9 : decode b_T_late 9 = .ok (.iconst 0, 1) := by decide +kernel
theorem d_T_late_10 : decode b_T_late 10 = .ok (.bipush 100, 2) := by decide +kernel
theorem d_T_late_12 : decode b_T_late 12 = .ok (.invokestatic 76, 3) := by decide +kernel
theorem d_T_late_15 : decode b_T_late 15 = .ok (.ifCond .ne 5, 3) := by decide +kernel
theorem d_T_late_18 : decode b_T_late 18 = .ok (.iconst 0, 1) := by decide +kernel
theorem d_T_late_19 : decode b_T_late 19 = .ok (.ireturn, 1) := by decide +kernel
theorem d_T_late_20 : decode b_T_late 20 = .ok (.aload_n 0, 1) := by decide +kernel
theorem d_T_late_21 : decode b_T_late 21 = .ok (.getfield 10, 3) := by decide +kernel
theorem d_T_late_24 : decode b_T_late 24 = .ok (.getfield 94, 3) := by decide +kernel
theorem d_T_late_27 : decode b_T_late 27 = .ok (.iload_n 1, 1) := by decide +kernel
theorem d_T_late_28 : decode b_T_late 28 = .ok (.aaload, 1) := by decide +kernel
theorem d_T_late_29 : decode b_T_late 29 = .ok (.aload_n 0, 1) := by decide +kernel
theorem d_T_late_30 : decode b_T_late 30 = .ok (.getfield 28, 3) := by decide +kernel
theorem d_T_late_33 : decode b_T_late 33 = .ok (.getfield 159, 3) := by decide +kernel
theorem d_T_late_36 : decode b_T_late 36 = .ok (.iload_n 1, 1) := by decide +kernel
theorem d_T_late_37 : decode b_T_late 37 = .ok (.iaload, 1) := by decide +kernel
theorem d_T_late_38 : decode b_T_late 38 = .ok (.iload_n 2, 1) := by decide +kernel
theorem d_T_late_39 : decode b_T_late 39 = .ok (.iadd, 1) := by decide +kernel
theorem d_T_late_40 : decode b_T_late 40 = .ok (.putfield 203, 3) := by decide +kernel
theorem d_T_late_43 : decode b_T_late 43 = .ok (.iconst 1, 1) := by decide +kernel
theorem d_T_late_44 : decode b_T_late 44 = .ok (.ireturn, 1) := by decide +kernel
theorem d_T_freeze_0 : decode b_T_freeze 0 = .ok (.aload_n 0, 1) := by decide +kernel
theorem d_T_freeze_1 : decode b_T_freeze 1 = .ok (.getfield 186, 3) := by decide +kernel
theorem d_T_freeze_4 : decode b_T_freeze 4 = .ok (.ifCond .eq 7, 3) := by decide +kernel
theorem d_T_freeze_7 : decode b_T_freeze 7 = .ok (.iload_n 1, 1) := by decide +kernel
theorem d_T_freeze_8 : decode b_T_freeze 8 = .ok (.ifCond .ge 5, 3) := by decide +kernel
theorem d_T_freeze_11 : decode b_T_freeze 11 = .ok (.iconst (-1), 1) := by decide +kernel
theorem d_T_freeze_12 : decode b_T_freeze 12 = .ok (.ireturn, 1) := by decide +kernel
theorem d_T_freeze_13 : decode b_T_freeze 13 = .ok (.iconst 0, 1) := by decide +kernel
theorem d_T_freeze_14 : decode b_T_freeze 14 = .ok (.istore_n 2, 1) := by decide +kernel
theorem d_T_freeze_15 : decode b_T_freeze 15 = .ok (.iload_n 2, 1) := by decide +kernel
theorem d_T_freeze_16 : decode b_T_freeze 16 = .ok (.aload_n 0, 1) := by decide +kernel
theorem d_T_freeze_17 : decode b_T_freeze 17 = .ok (.getfield 10, 3) := by decide +kernel
theorem d_T_freeze_20 : decode b_T_freeze 20 = .ok (.getfield 80, 3) := by decide +kernel
theorem d_T_freeze_23 : decode b_T_freeze 23 = .ok (.if_icmp .ge 39, 3) := by decide +kernel
theorem d_T_freeze_26 : decode b_T_freeze 26 = .ok (.aload_n 0, 1) := by decide +kernel
theorem d_T_freeze_27 : decode b_T_freeze 27 = .ok (.getfield 10, 3) := by decide +kernel
theorem d_T_freeze_30 : decode b_T_freeze 30 = .ok (.getfield 94, 3) := by decide +kernel
theorem d_T_freeze_33 : decode b_T_freeze 33 = .ok (.iload_n 2, 1) := by decide +kernel
theorem d_T_freeze_34 : decode b_T_freeze 34 = .ok (.aaload, 1) := by decide +kernel
theorem d_T_freeze_35 : decode b_T_freeze 35 = .ok (.aload_n 0, 1) := by decide +kernel
theorem d_T_freeze_36 : decode b_T_freeze 36 = .ok (.getfield 28, 3) := by decide +kernel
theorem d_T_freeze_39 : decode b_T_freeze 39 = .ok (.getfield 159, 3) := by decide +kernel
theorem d_T_freeze_42 : decode b_T_freeze 42 = .ok (.iload_n 2, 1) := by decide +kernel
theorem d_T_freeze_43 : decode b_T_freeze 43 = .ok (.iaload, 1) := by decide +kernel
theorem d_T_freeze_44 : decode b_T_freeze 44 = .ok (.iload_n 1, 1) := by decide +kernel
theorem d_T_freeze_45 : decode b_T_freeze 45 = .ok (.if_icmp .ge 7, 3) := by decide +kernel
theorem d_T_freeze_48 : decode b_T_freeze 48 = .ok (.iconst 1, 1) := by decide +kernel
theorem d_T_freeze_49 : decode b_T_freeze 49 = .ok (.goto 4, 3) := by decide +kernel
theorem d_T_freeze_52 : decode b_T_freeze 52 = .ok (.iconst 0, 1) := by decide +kernel
theorem d_T_freeze_53 : decode b_T_freeze 53 = .ok (.putfield 206, 3) := by decide +kernel
theorem d_T_freeze_56 : decode b_T_freeze 56 = .ok (.iinc 2 1, 3) := by decide +kernel
theorem d_T_freeze_59 : decode b_T_freeze 59 = .ok (.goto (-44), 3) := by decide +kernel
theorem d_T_freeze_62 : decode b_T_freeze 62 = .ok (.aload_n 0, 1) := by decide +kernel
theorem d_T_freeze_63 : decode b_T_freeze 63 = .ok (.getfield 10, 3) := by decide +kernel
theorem d_T_freeze_66 : decode b_T_freeze 66 = .ok (.invokevirtual 209, 3) := by decide +kernel
theorem d_T_freeze_69 : decode b_T_freeze 69 = .ok (.ireturn, 1) := by decide +kernel
theorem d_T_replan_0 : decode b_T_replan 0 = .ok (.iload_n 1, 1) := by decide +kernel
theorem d_T_replan_1 : decode b_T_replan 1 = .ok (.iconst 1, 1) := by decide +kernel
theorem d_T_replan_2 : decode b_T_replan 2 = .ok (.sipush 20000, 3) := by decide +kernel
theorem d_T_replan_5 : decode b_T_replan 5 = .ok (.invokestatic 76, 3) := by decide +kernel
theorem d_T_replan_8 : decode b_T_replan 8 = .ok (.ifCond .eq 10, 3) := by decide +kernel
theorem d_T_replan_11 : decode b_T_replan 11 = .ok (.aload_n 0, 1) := by decide +kernel
theorem d_T_replan_12 : decode b_T_replan 12 = .ok (.getfield 186, 3) := by decide +kernel
theorem d_T_replan_15 : decode b_T_replan 15 = .ok (.ifCond .ne 5, 3) := by decide +kernel
theorem d_T_replan_18 : decode b_T_replan 18 = .ok (.iconst (-1), 1) := by decide +kernel
theorem d_T_replan_19 : decode b_T_replan 19 = .ok (.ireturn, 1) := by decide +kernel
theorem d_T_replan_20 : decode b_T_replan 20 = .ok (.aload_n 0, 1) := by decide +kernel
theorem d_T_replan_21 : decode b_T_replan 21 = .ok (.getfield 37, 3) := by decide +kernel
theorem d_T_replan_24 : decode b_T_replan 24 = .ok (.iload_n 1, 1) := by decide +kernel
theorem d_T_replan_25 : decode b_T_replan 25 = .ok (.iconst 1, 1) := by decide +kernel
theorem d_T_replan_26 : decode b_T_replan 26 = .ok (.invokevirtual 138, 3) := by decide +kernel
theorem d_T_replan_29 : decode b_T_replan 29 = .ok (.aload_n 0, 1) := by decide +kernel
theorem d_T_replan_30 : decode b_T_replan 30 = .ok (.iconst 1, 1) := by decide +kernel
theorem d_T_replan_31 : decode b_T_replan 31 = .ok (.invokevirtual 142, 3) := by decide +kernel
theorem d_T_replan_34 : decode b_T_replan 34 = .ok (.ifCond .eq 13, 3) := by decide +kernel
theorem d_T_replan_37 : decode b_T_replan 37 = .ok (.aload_n 0, 1) := by decide +kernel
theorem d_T_replan_38 : decode b_T_replan 38 = .ok (.getfield 37, 3) := by decide +kernel
theorem d_T_replan_41 : decode b_T_replan 41 = .ok (.getfield 213, 3) := by decide +kernel
theorem d_T_replan_44 : decode b_T_replan 44 = .ok (.goto 4, 3) := by decide +kernel
theorem d_T_replan_47 : decode b_T_replan 47 = .ok (.iconst (-1), 1) := by decide +kernel
theorem d_T_replan_48 : decode b_T_replan 48 = .ok (.ireturn, 1) := by decide +kernel
theorem d_T_moved_0 : decode b_T_moved 0 = .ok (.aload_n 0, 1) := by decide +kernel
theorem d_T_moved_1 : decode b_T_moved 1 = .ok (.iload_n 1, 1) := by decide +kernel
theorem d_T_moved_2 : decode b_T_moved 2 = .ok (.invokevirtual 156, 3) := by decide +kernel
theorem d_T_moved_5 : decode b_T_moved 5 = .ok (.ifCond .eq 16, 3) := by decide +kernel
theorem d_T_moved_8 : decode b_T_moved 8 = .ok (.aload_n 0, 1) := by decide +kernel
theorem d_T_moved_9 : decode b_T_moved 9 = .ok (.getfield 57, 3) := by decide +kernel
theorem d_T_moved_12 : decode b_T_moved 12 = .ok (.iload_n 1, 1) := by decide +kernel
theorem d_T_moved_13 : decode b_T_moved 13 = .ok (.baload, 1) := by decide +kernel
theorem d_T_moved_14 : decode b_T_moved 14 = .ok (.ifCond .eq 7, 3) := by decide +kernel
theorem d_T_moved_17 : decode b_T_moved 17 = .ok (.iconst 1, 1) := by decide +kernel
theorem d_T_moved_18 : decode b_T_moved 18 = .ok (.goto 4, 3) := by decide +kernel
theorem d_T_moved_21 : decode b_T_moved 21 = .ok (.iconst 0, 1) := by decide +kernel
theorem d_T_moved_22 : decode b_T_moved 22 = .ok (.ireturn, 1) := by decide +kernel
theorem d_T_slack_0 : decode b_T_slack 0 = .ok (.aload_n 0, 1) := by decide +kernel
theorem d_T_slack_1 : decode b_T_slack 1 = .ok (.iload_n 1, 1) := by decide +kernel
theorem d_T_slack_2 : decode b_T_slack 2 = .ok (.invokevirtual 156, 3) := by decide +kernel
theorem d_T_slack_5 : decode b_T_slack 5 = .ok (.ifCond .ne 5, 3) := by decide +kernel
theorem d_T_slack_8 : decode b_T_slack 8 = .ok (.iconst (-1), 1) := by decide +kernel
theorem d_T_slack_9 : decode b_T_slack 9 = .ok (.ireturn, 1) := by decide +kernel
theorem d_T_slack_10 : decode b_T_slack 10 = .ok (.aload_n 0, 1) := by decide +kernel
theorem d_T_slack_11 : decode b_T_slack 11 = .ok (.getfield 21, 3) := by decide +kernel
theorem d_T_slack_14 : decode b_T_slack 14 = .ok (.aload_n 0, 1) := by decide +kernel
theorem d_T_slack_15 : decode b_T_slack 15 = .ok (.getfield 44, 3) := by decide +kernel
theorem d_T_slack_18 : decode b_T_slack 18 = .ok (.aload_n 0, 1) := by decide +kernel
theorem d_T_slack_19 : decode b_T_slack 19 = .ok (.getfield 28, 3) := by decide +kernel
theorem d_T_slack_22 : decode b_T_slack 22 = .ok (.iload_n 1, 1) := by decide +kernel
theorem d_T_slack_23 : decode b_T_slack 23 = .ok (.aload_n 0, 1) := by decide +kernel
theorem d_T_slack_24 : decode b_T_slack 24 = .ok (.getfield 28, 3) := by decide +kernel
theorem d_T_slack_27 : decode b_T_slack 27 = .ok (.getfield 166, 3) := by decide +kernel
theorem d_T_slack_30 : decode b_T_slack 30 = .ok (.iload_n 1, 1) := by decide +kernel
theorem d_T_slack_31 : decode b_T_slack 31 = .ok (.iaload, 1) := by decide +kernel
theorem d_T_slack_32 : decode b_T_slack 32 = .ok (.aload_n 0, 1) := by decide +kernel
theorem d_T_slack_33 : decode b_T_slack 33 = .ok (.getfield 10, 3) := by decide +kernel
theorem d_T_slack_36 : decode b_T_slack 36 = .ok (.getfield 80, 3) := by decide +kernel
theorem d_T_slack_39 : decode b_T_slack 39 = .ok (.invokevirtual 216, 3) := by decide +kernel
theorem d_T_slack_42 : decode b_T_slack 42 = .ok (.iconst 0, 1) := by decide +kernel
theorem d_T_slack_43 : decode b_T_slack 43 = .ok (.istore_n 2, 1) := by decide +kernel
theorem d_T_slack_44 : decode b_T_slack 44 = .ok (.aload_n 0, 1) := by decide +kernel
theorem d_T_slack_45 : decode b_T_slack 45 = .ok (.getfield 28, 3) := by decide +kernel
theorem d_T_slack_48 : decode b_T_slack 48 = .ok (.getfield 159, 3) := by decide +kernel
theorem d_T_slack_51 : decode b_T_slack 51 = .ok (.iload_n 1, 1) := by decide +kernel
theorem d_T_slack_52 : decode b_T_slack 52 = .ok (.iaload, 1) := by decide +kernel
theorem d_T_slack_53 : decode b_T_slack 53 = .ok (.iconst 1, 1) := by decide +kernel
theorem d_T_slack_54 : decode b_T_slack 54 = .ok (.iadd, 1) := by decide +kernel
theorem d_T_slack_55 : decode b_T_slack 55 = .ok (.istore_n 3, 1) := by decide +kernel
theorem d_T_slack_56 : decode b_T_slack 56 = .ok (.iload_n 3, 1) := by decide +kernel
theorem d_T_slack_57 : decode b_T_slack 57 = .ok (.bipush 100, 2) := by decide +kernel
theorem d_T_slack_59 : decode b_T_slack 59 = .ok (.if_icmp .ge 38, 3) := by decide +kernel
theorem d_T_slack_62 : decode b_T_slack 62 = .ok (.aload_n 0, 1) := by decide +kernel
theorem d_T_slack_63 : decode b_T_slack 63 = .ok (.getfield 10, 3) := by decide +kernel
theorem d_T_slack_66 : decode b_T_slack 66 = .ok (.getfield 115, 3) := by decide +kernel
theorem d_T_slack_69 : decode b_T_slack 69 = .ok (.iload_n 3, 1) := by decide +kernel
theorem d_T_slack_70 : decode b_T_slack 70 = .ok (.invokevirtual 119, 3) := by decide +kernel
theorem d_T_slack_73 : decode b_T_slack 73 = .ok (.ifCond .eq 18, 3) := by decide +kernel
theorem d_T_slack_76 : decode b_T_slack 76 = .ok (.aload_n 0, 1) := by decide +kernel
theorem d_T_slack_77 : decode b_T_slack 77 = .ok (.iload_n 1, 1) := by decide +kernel
theorem d_T_slack_78 : decode b_T_slack 78 = .ok (.iload_n 3, 1) := by decide +kernel
theorem d_T_slack_79 : decode b_T_slack 79 = .ok (.invokevirtual 220, 3) := by decide +kernel
theorem d_T_slack_82 : decode b_T_slack 82 = .ok (.ifCond .ne 6, 3) := by decide +kernel
theorem d_T_slack_85 : decode b_T_slack 85 = .ok (.goto 12, 3) := by decide +kernel
theorem d_T_slack_88 : decode b_T_slack 88 = .ok (.iinc 2 1, 3) := by decide +kernel
theorem d_T_slack_91 : decode b_T_slack 91 = .ok (.iinc 3 1, 3) := by decide +kernel
theorem d_T_slack_94 : decode b_T_slack 94 = .ok (.goto (-38), 3) := by decide +kernel
theorem d_T_slack_97 : decode b_T_slack 97 = .ok (.iload_n 2, 1) := by decide +kernel
theorem d_T_slack_98 : decode b_T_slack 98 = .ok (.ireturn, 1) := by decide +kernel
theorem d_T_odds_0 : decode b_T_odds 0 = .ok (.aload_n 0, 1) := by decide +kernel
theorem d_T_odds_1 : decode b_T_odds 1 = .ok (.getfield 186, 3) := by decide +kernel
theorem d_T_odds_4 : decode b_T_odds 4 = .ok (.ifCond .eq 27, 3) := by decide +kernel
theorem d_T_odds_7 : decode b_T_odds 7 = .ok (.iload_n 1, 1) := by decide +kernel
theorem d_T_odds_8 : decode b_T_odds 8 = .ok (.ifCond .lt 23, 3) := by decide +kernel
theorem d_T_odds_11 : decode b_T_odds 11 = .ok (.iload_n 2, 1) := by decide +kernel
theorem d_T_odds_12 : decode b_T_odds 12 = .ok (.iconst 1, 1) := by decide +kernel
theorem d_T_odds_13 : decode b_T_odds 13 = .ok (.bipush 50, 2) := by decide +kernel
theorem d_T_odds_15 : decode b_T_odds 15 = .ok (.invokestatic 76, 3) := by decide +kernel
theorem d_T_odds_18 : decode b_T_odds 18 = .ok (.ifCond .eq 13, 3) := by decide +kernel
theorem d_T_odds_21 : decode b_T_odds 21 = .ok (.iload_n 3, 1) := by decide +kernel
theorem d_T_odds_22 : decode b_T_odds 22 = .ok (.iconst 0, 1) := by decide +kernel
theorem d_T_odds_23 : decode b_T_odds 23 = .ok (.bipush 90, 2) := by decide +kernel
theorem d_T_odds_25 : decode b_T_odds 25 = .ok (.invokestatic 76, 3) := by decide +kernel
theorem d_T_odds_28 : decode b_T_odds 28 = .ok (.ifCond .ne 5, 3) := by decide +kernel
theorem d_T_odds_31 : decode b_T_odds 31 = .ok (.iconst (-1), 1) := by decide +kernel
theorem d_T_odds_32 : decode b_T_odds 32 = .ok (.ireturn, 1) := by decide +kernel
theorem d_T_odds_33 : decode b_T_odds 33 = .ok (.aload_n 0, 1) := by decide +kernel
theorem d_T_odds_34 : decode b_T_odds 34 = .ok (.getfield 53, 3) := by decide +kernel
theorem d_T_odds_37 : decode b_T_odds 37 = .ok (.iload 4, 2) := by decide +kernel
theorem d_T_odds_39 : decode b_T_odds 39 = .ok (.invokevirtual 224, 3) := by decide +kernel
theorem d_T_odds_42 : decode b_T_odds 42 = .ok (.iconst 0, 1) := by decide +kernel
theorem d_T_odds_43 : decode b_T_odds 43 = .ok (.istore 5, 2) := by decide +kernel
theorem d_T_odds_45 : decode b_T_odds 45 = .ok (.iconst 0, 1) := by decide +kernel
theorem d_T_odds_46 : decode b_T_odds 46 = .ok (.istore 6, 2) := by decide +kernel
theorem d_T_odds_48 : decode b_T_odds 48 = .ok (.iload 6, 2) := by decide +kernel
theorem d_T_odds_50 : decode b_T_odds 50 = .ok (.iload_n 2, 1) := by decide +kernel
theorem d_T_odds_51 : decode b_T_odds 51 = .ok (.if_icmp .ge 24, 3) := by decide +kernel
theorem d_T_odds_54 : decode b_T_odds 54 = .ok (.aload_n 0, 1) := by decide +kernel
theorem d_T_odds_55 : decode b_T_odds 55 = .ok (.getfield 53, 3) := by decide +kernel
theorem d_T_odds_58 : decode b_T_odds 58 = .ok (.iload_n 3, 1) := by decide +kernel
theorem d_T_odds_59 : decode b_T_odds 59 = .ok (.invokevirtual 227, 3) := by decide +kernel
theorem d_T_odds_62 : decode b_T_odds 62 = .ok (.iload_n 1, 1) := by decide +kernel
theorem d_T_odds_63 : decode b_T_odds 63 = .ok (.if_icmp .gt 6, 3) := by decide +kernel
theorem d_T_odds_66 : decode b_T_odds 66 = .ok (.iinc 5 1, 3) := by decide +kernel
theorem d_T_odds_69 : decode b_T_odds 69 = .ok (.iinc 6 1, 3) := by decide +kernel
theorem d_T_odds_72 : decode b_T_odds 72 = .ok (.goto (-24), 3) := by decide +kernel
theorem d_T_odds_75 : decode b_T_odds 75 = .ok (.iload 5, 2) := by decide +kernel
theorem d_T_odds_77 : decode b_T_odds 77 = .ok (.ireturn, 1) := by decide +kernel
theorem d_T_count_0 : decode b_T_count 0 = .ok (.iload_n 1, 1) := by decide +kernel
theorem d_T_count_1 : decode b_T_count 1 = .ok (.tableswitch 98 0 5 #[39, 47, 55, 66, 74, 82], 39) := by decide +kernel
theorem d_T_count_40 : decode b_T_count 40 = .ok (.aload_n 0, 1) := by decide +kernel
theorem d_T_count_41 : decode b_T_count 41 = .ok (.getfield 10, 3) := by decide +kernel
theorem d_T_count_44 : decode b_T_count 44 = .ok (.getfield 65, 3) := by decide +kernel
theorem d_T_count_47 : decode b_T_count 47 = .ok (.ireturn, 1) := by decide +kernel
theorem d_T_count_48 : decode b_T_count 48 = .ok (.aload_n 0, 1) := by decide +kernel
theorem d_T_count_49 : decode b_T_count 49 = .ok (.getfield 10, 3) := by decide +kernel
theorem d_T_count_52 : decode b_T_count 52 = .ok (.getfield 80, 3) := by decide +kernel
theorem d_T_count_55 : decode b_T_count 55 = .ok (.ireturn, 1) := by decide +kernel
theorem d_T_count_56 : decode b_T_count 56 = .ok (.aload_n 0, 1) := by decide +kernel
theorem d_T_count_57 : decode b_T_count 57 = .ok (.getfield 10, 3) := by decide +kernel
theorem d_T_count_60 : decode b_T_count 60 = .ok (.getfield 115, 3) := by decide +kernel
theorem d_T_count_63 : decode b_T_count 63 = .ok (.getfield 230, 3) := by decide +kernel
theorem d_T_count_66 : decode b_T_count 66 = .ok (.ireturn, 1) := by decide +kernel
theorem d_T_count_67 : decode b_T_count 67 = .ok (.aload_n 0, 1) := by decide +kernel
theorem d_T_count_68 : decode b_T_count 68 = .ok (.getfield 10, 3) := by decide +kernel
theorem d_T_count_71 : decode b_T_count 71 = .ok (.getfield 109, 3) := by decide +kernel
theorem d_T_count_74 : decode b_T_count 74 = .ok (.ireturn, 1) := by decide +kernel
theorem d_T_count_75 : decode b_T_count 75 = .ok (.aload_n 0, 1) := by decide +kernel
theorem d_T_count_76 : decode b_T_count 76 = .ok (.getfield 10, 3) := by decide +kernel
theorem d_T_count_79 : decode b_T_count 79 = .ok (.invokevirtual 209, 3) := by decide +kernel
theorem d_T_count_82 : decode b_T_count 82 = .ok (.ireturn, 1) := by decide +kernel
theorem d_T_count_83 : decode b_T_count 83 = .ok (.aload_n 0, 1) := by decide +kernel
theorem d_T_count_84 : decode b_T_count 84 = .ok (.getfield 186, 3) := by decide +kernel
theorem d_T_count_87 : decode b_T_count 87 = .ok (.ifCond .eq 10, 3) := by decide +kernel
theorem d_T_count_90 : decode b_T_count 90 = .ok (.aload_n 0, 1) := by decide +kernel
theorem d_T_count_91 : decode b_T_count 91 = .ok (.getfield 146, 3) := by decide +kernel
theorem d_T_count_94 : decode b_T_count 94 = .ok (.goto 4, 3) := by decide +kernel
theorem d_T_count_97 : decode b_T_count 97 = .ok (.iconst (-1), 1) := by decide +kernel
theorem d_T_count_98 : decode b_T_count 98 = .ok (.ireturn, 1) := by decide +kernel
theorem d_T_count_99 : decode b_T_count 99 = .ok (.iconst (-1), 1) := by decide +kernel
theorem d_T_count_100 : decode b_T_count 100 = .ok (.ireturn, 1) := by decide +kernel
theorem d_T_isWork_0 : decode b_T_isWork 0 = .ok (.iload_n 1, 1) := by decide +kernel
theorem d_T_isWork_1 : decode b_T_isWork 1 = .ok (.ifCond .lt 18, 3) := by decide +kernel
theorem d_T_isWork_4 : decode b_T_isWork 4 = .ok (.iload_n 1, 1) := by decide +kernel
theorem d_T_isWork_5 : decode b_T_isWork 5 = .ok (.aload_n 0, 1) := by decide +kernel
theorem d_T_isWork_6 : decode b_T_isWork 6 = .ok (.getfield 10, 3) := by decide +kernel
theorem d_T_isWork_9 : decode b_T_isWork 9 = .ok (.getfield 80, 3) := by decide +kernel
theorem d_T_isWork_12 : decode b_T_isWork 12 = .ok (.if_icmp .ge 7, 3) := by decide +kernel
theorem d_T_isWork_15 : decode b_T_isWork 15 = .ok (.iconst 1, 1) := by decide +kernel
theorem d_T_isWork_16 : decode b_T_isWork 16 = .ok (.goto 4, 3) := by decide +kernel
theorem d_T_isWork_19 : decode b_T_isWork 19 = .ok (.iconst 0, 1) := by decide +kernel
theorem d_T_isWork_20 : decode b_T_isWork 20 = .ok (.ireturn, 1) := by decide +kernel
theorem d_T_isPlanned_0 : decode b_T_isPlanned 0 = .ok (.aload_n 0, 1) := by decide +kernel
theorem d_T_isPlanned_1 : decode b_T_isPlanned 1 = .ok (.getfield 186, 3) := by decide +kernel
theorem d_T_isPlanned_4 : decode b_T_isPlanned 4 = .ok (.ifCond .eq 15, 3) := by decide +kernel
theorem d_T_isPlanned_7 : decode b_T_isPlanned 7 = .ok (.aload_n 0, 1) := by decide +kernel
theorem d_T_isPlanned_8 : decode b_T_isPlanned 8 = .ok (.iload_n 1, 1) := by decide +kernel
theorem d_T_isPlanned_9 : decode b_T_isPlanned 9 = .ok (.invokevirtual 87, 3) := by decide +kernel
theorem d_T_isPlanned_12 : decode b_T_isPlanned 12 = .ok (.ifCond .eq 7, 3) := by decide +kernel
theorem d_T_isPlanned_15 : decode b_T_isPlanned 15 = .ok (.iconst 1, 1) := by decide +kernel
theorem d_T_isPlanned_16 : decode b_T_isPlanned 16 = .ok (.goto 4, 3) := by decide +kernel
theorem d_T_isPlanned_19 : decode b_T_isPlanned 19 = .ok (.iconst 0, 1) := by decide +kernel
theorem d_T_isPlanned_20 : decode b_T_isPlanned 20 = .ok (.ireturn, 1) := by decide +kernel
theorem d_T_isKind_0 : decode b_T_isKind 0 = .ok (.iload_n 0, 1) := by decide +kernel
theorem d_T_isKind_1 : decode b_T_isKind 1 = .ok (.iconst 0, 1) := by decide +kernel
theorem d_T_isKind_2 : decode b_T_isKind 2 = .ok (.iconst 3, 1) := by decide +kernel
theorem d_T_isKind_3 : decode b_T_isKind 3 = .ok (.invokestatic 76, 3) := by decide +kernel
theorem d_T_isKind_6 : decode b_T_isKind 6 = .ok (.ireturn, 1) := by decide +kernel
theorem d_T_isWithin_0 : decode b_T_isWithin 0 = .ok (.iload_n 1, 1) := by decide +kernel
theorem d_T_isWithin_1 : decode b_T_isWithin 1 = .ok (.iload_n 0, 1) := by decide +kernel
theorem d_T_isWithin_2 : decode b_T_isWithin 2 = .ok (.if_icmp .gt 12, 3) := by decide +kernel
theorem d_T_isWithin_5 : decode b_T_isWithin 5 = .ok (.iload_n 0, 1) := by decide +kernel
theorem d_T_isWithin_6 : decode b_T_isWithin 6 = .ok (.iload_n 2, 1) := by decide +kernel
theorem d_T_isWithin_7 : decode b_T_isWithin 7 = .ok (.if_icmp .gt 7, 3) := by decide +kernel
theorem d_T_isWithin_10 : decode b_T_isWithin 10 = .ok (.iconst 1, 1) := by decide +kernel
theorem d_T_isWithin_11 : decode b_T_isWithin 11 = .ok (.goto 4, 3) := by decide +kernel
theorem d_T_isWithin_14 : decode b_T_isWithin 14 = .ok (.iconst 0, 1) := by decide +kernel
theorem d_T_isWithin_15 : decode b_T_isWithin 15 = .ok (.ireturn, 1) := by decide +kernel
theorem d_T_forgetPlan_0 : decode b_T_forgetPlan 0 = .ok (.aload_n 0, 1) := by decide +kernel
theorem d_T_forgetPlan_1 : decode b_T_forgetPlan 1 = .ok (.iconst 0, 1) := by decide +kernel
theorem d_T_forgetPlan_2 : decode b_T_forgetPlan 2 = .ok (.putfield 186, 3) := by decide +kernel
theorem d_T_forgetPlan_5 : decode b_T_forgetPlan 5 = .ok (.iconst 0, 1) := by decide +kernel
theorem d_T_forgetPlan_6 : decode b_T_forgetPlan 6 = .ok (.istore_n 1, 1) := by decide +kernel
theorem d_T_forgetPlan_7 : decode b_T_forgetPlan 7 = .ok (.iload_n 1, 1) := by decide +kernel
theorem d_T_forgetPlan_8 : decode b_T_forgetPlan 8 = .ok (.aload_n 0, 1) := by decide +kernel
theorem d_T_forgetPlan_9 : decode b_T_forgetPlan 9 = .ok (.getfield 10, 3) := by decide +kernel
theorem d_T_forgetPlan_12 : decode b_T_forgetPlan 12 = .ok (.getfield 80, 3) := by decide +kernel
theorem d_T_forgetPlan_15 : decode b_T_forgetPlan 15 = .ok (.if_icmp .ge 35, 3) := by decide +kernel
theorem d_T_forgetPlan_18 : decode b_T_forgetPlan 18 = .ok (.aload_n 0, 1) := by decide +kernel
theorem d_T_forgetPlan_19 : decode b_T_forgetPlan 19 = .ok (.getfield 10, 3) := by decide +kernel
theorem d_T_forgetPlan_22 : decode b_T_forgetPlan 22 = .ok (.getfield 94, 3) := by decide +kernel
theorem d_T_forgetPlan_25 : decode b_T_forgetPlan 25 = .ok (.iload_n 1, 1) := by decide +kernel
theorem d_T_forgetPlan_26 : decode b_T_forgetPlan 26 = .ok (.aaload, 1) := by decide +kernel
theorem d_T_forgetPlan_27 : decode b_T_forgetPlan 27 = .ok (.iconst 0, 1) := by decide +kernel
theorem d_T_forgetPlan_28 : decode b_T_forgetPlan 28 = .ok (.putfield 203, 3) := by decide +kernel
theorem d_T_forgetPlan_31 : decode b_T_forgetPlan 31 = .ok (.aload_n 0, 1) := by decide +kernel
theorem d_T_forgetPlan_32 : decode b_T_forgetPlan 32 = .ok (.getfield 10, 3) := by decide +kernel
theorem d_T_forgetPlan_35 : decode b_T_forgetPlan 35 = .ok (.getfield 94, 3) := by decide +kernel
theorem d_T_forgetPlan_38 : decode b_T_forgetPlan 38 = .ok (.iload_n 1, 1) := by decide +kernel
theorem d_T_forgetPlan_39 : decode b_T_forgetPlan 39 = .ok (.aaload, 1) := by decide +kernel
theorem d_T_forgetPlan_40 : decode b_T_forgetPlan 40 = .ok (.iconst 0, 1) := by decide +kernel
theorem d_T_forgetPlan_41 : decode b_T_forgetPlan 41 = .ok (.putfield 206, 3) := by decide +kernel
theorem d_T_forgetPlan_44 : decode b_T_forgetPlan 44 = .ok (.iinc 1 1, 3) := by decide +kernel
theorem d_T_forgetPlan_47 : decode b_T_forgetPlan 47 = .ok (.goto (-40), 3) := by decide +kernel
theorem d_T_forgetPlan_50 : decode b_T_forgetPlan 50 = .ok (.return_, 1) := by decide +kernel
theorem d_T_takeOutcome_0 : decode b_T_takeOutcome 0 = .ok (.aload_n 0, 1) := by decide +kernel
theorem d_T_takeOutcome_1 : decode b_T_takeOutcome 1 = .ok (.aload_n 0, 1) := by decide +kernel
theorem d_T_takeOutcome_2 : decode b_T_takeOutcome 2 = .ok (.getfield 37, 3) := by decide +kernel
theorem d_T_takeOutcome_5 : decode b_T_takeOutcome 5 = .ok (.getfield 233, 3) := by decide +kernel
theorem d_T_takeOutcome_8 : decode b_T_takeOutcome 8 = .ok (.putfield 153, 3) := by decide +kernel
theorem d_T_takeOutcome_11 : decode b_T_takeOutcome 11 = .ok (.aload_n 0, 1) := by decide +kernel
theorem d_T_takeOutcome_12 : decode b_T_takeOutcome 12 = .ok (.aload_n 0, 1) := by decide +kernel
theorem d_T_takeOutcome_13 : decode b_T_takeOutcome 13 = .ok (.getfield 37, 3) := by decide +kernel
theorem d_T_takeOutcome_16 : decode b_T_takeOutcome 16 = .ok (.getfield 236, 3) := by decide +kernel
theorem d_T_takeOutcome_19 : decode b_T_takeOutcome 19 = .ok (.ifCond .ne 7, 3) := by decide +kernel
theorem d_T_takeOutcome_22 : decode b_T_takeOutcome 22 = .ok (.iconst 1, 1) := by decide +kernel
theorem d_T_takeOutcome_23 : decode b_T_takeOutcome 23 = .ok (.goto 4, 3) := by decide +kernel
theorem d_T_takeOutcome_26 : decode b_T_takeOutcome 26 = .ok (.iconst 0, 1) := by decide +kernel
theorem d_T_takeOutcome_27 : decode b_T_takeOutcome 27 = .ok (.putfield 149, 3) := by decide +kernel
theorem d_T_takeOutcome_30 : decode b_T_takeOutcome 30 = .ok (.aload_n 0, 1) := by decide +kernel
theorem d_T_takeOutcome_31 : decode b_T_takeOutcome 31 = .ok (.getfield 37, 3) := by decide +kernel
theorem d_T_takeOutcome_34 : decode b_T_takeOutcome 34 = .ok (.getfield 239, 3) := by decide +kernel
theorem d_T_takeOutcome_37 : decode b_T_takeOutcome 37 = .ok (.ifCond .ne 5, 3) := by decide +kernel
theorem d_T_takeOutcome_40 : decode b_T_takeOutcome 40 = .ok (.iconst 0, 1) := by decide +kernel
theorem d_T_takeOutcome_41 : decode b_T_takeOutcome 41 = .ok (.ireturn, 1) := by decide +kernel
theorem d_T_takeOutcome_42 : decode b_T_takeOutcome 42 = .ok (.iconst 0, 1) := by decide +kernel
theorem d_T_takeOutcome_43 : decode b_T_takeOutcome 43 = .ok (.istore_n 2, 1) := by decide +kernel
theorem d_T_takeOutcome_44 : decode b_T_takeOutcome 44 = .ok (.iload_n 2, 1) := by decide +kernel
theorem d_T_takeOutcome_45 : decode b_T_takeOutcome 45 = .ok (.aload_n 0, 1) := by decide +kernel
theorem d_T_takeOutcome_46 : decode b_T_takeOutcome 46 = .ok (.getfield 10, 3) := by decide +kernel
theorem d_T_takeOutcome_49 : decode b_T_takeOutcome 49 = .ok (.getfield 80, 3) := by decide +kernel
theorem d_T_takeOutcome_52 : decode b_T_takeOutcome 52 = .ok (.if_icmp .ge 76, 3) := by decide +kernel
theorem d_T_takeOutcome_55 : decode b_T_takeOutcome 55 = .ok (.aload_n 0, 1) := by decide +kernel
theorem d_T_takeOutcome_56 : decode b_T_takeOutcome 56 = .ok (.getfield 37, 3) := by decide +kernel
theorem d_T_takeOutcome_59 : decode b_T_takeOutcome 59 = .ok (.getfield 242, 3) := by decide +kernel
theorem d_T_takeOutcome_62 : decode b_T_takeOutcome 62 = .ok (.getfield 159, 3) := by decide +kernel
theorem d_T_takeOutcome_65 : decode b_T_takeOutcome 65 = .ok (.iload_n 2, 1) := by decide +kernel
theorem d_T_takeOutcome_66 : decode b_T_takeOutcome 66 = .ok (.iaload, 1) := by decide +kernel
theorem d_T_takeOutcome_67 : decode b_T_takeOutcome 67 = .ok (.istore_n 3, 1) := by decide +kernel
theorem d_T_takeOutcome_68 : decode b_T_takeOutcome 68 = .ok (.aload_n 0, 1) := by decide +kernel
theorem d_T_takeOutcome_69 : decode b_T_takeOutcome 69 = .ok (.getfield 37, 3) := by decide +kernel
theorem d_T_takeOutcome_72 : decode b_T_takeOutcome 72 = .ok (.getfield 242, 3) := by decide +kernel
theorem d_T_takeOutcome_75 : decode b_T_takeOutcome 75 = .ok (.getfield 166, 3) := by decide +kernel
theorem d_T_takeOutcome_78 : decode b_T_takeOutcome 78 = .ok (.iload_n 2, 1) := by decide +kernel
theorem d_T_takeOutcome_79 : decode b_T_takeOutcome 79 = .ok (.iaload, 1) := by decide +kernel
theorem d_T_takeOutcome_80 : decode b_T_takeOutcome 80 = .ok (.istore 4, 2) := by decide +kernel
theorem d_T_takeOutcome_82 : decode b_T_takeOutcome 82 = .ok (.aload_n 0, 1) := by decide +kernel
theorem d_T_takeOutcome_83 : decode b_T_takeOutcome 83 = .ok (.getfield 57, 3) := by decide +kernel
theorem d_T_takeOutcome_86 : decode b_T_takeOutcome 86 = .ok (.iload_n 2, 1) := by decide +kernel
theorem d_T_takeOutcome_87 : decode b_T_takeOutcome 87 = .ok (.iload_n 1, 1) := by decide +kernel
theorem d_T_takeOutcome_88 : decode b_T_takeOutcome 88 = .ok (.ifCond .eq 21, 3) := by decide +kernel
theorem d_T_takeOutcome_91 : decode b_T_takeOutcome 91 = .ok (.aload_n 0, 1) := by decide +kernel
theorem d_T_takeOutcome_92 : decode b_T_takeOutcome 92 = .ok (.getfield 28, 3) := by decide +kernel
theorem d_T_takeOutcome_95 : decode b_T_takeOutcome 95 = .ok (.iload_n 2, 1) := by decide +kernel
theorem d_T_takeOutcome_96 : decode b_T_takeOutcome 96 = .ok (.iload_n 3, 1) := by decide +kernel
theorem d_T_takeOutcome_97 : decode b_T_takeOutcome 97 = .ok (.iload 4, 2) := by decide +kernel
theorem d_T_takeOutcome_99 : decode b_T_takeOutcome 99 = .ok (.invokevirtual 245, 3) := by decide +kernel
theorem d_T_takeOutcome_102 : decode b_T_takeOutcome 102 = .ok (.ifCond .eq 7, 3) := by decide +kernel
theorem d_T_takeOutcome_105 : decode b_T_takeOutcome 105 = .ok (.iconst 1, 1) := by decide +kernel
theorem d_T_takeOutcome_106 : decode b_T_takeOutcome 106 = .ok (.goto 4, 3) := by decide +kernel
theorem d_T_takeOutcome_109 : decode b_T_takeOutcome 109 = .ok (.iconst 0, 1) := by decide +kernel
theorem d_T_takeOutcome_110 : decode b_T_takeOutcome 110 = .ok (.bastore, 1) := by decide +kernel
theorem d_T_takeOutcome_111 : decode b_T_takeOutcome 111 = .ok (.aload_n 0, 1) := by decide +kernel
theorem d_T_takeOutcome_112 : decode b_T_takeOutcome 112 = .ok (.getfield 28, 3) := by decide +kernel
theorem d_T_takeOutcome_115 : decode b_T_takeOutcome 115 = .ok (.iload_n 2, 1) := by decide +kernel
theorem d_T_takeOutcome_116 : decode b_T_takeOutcome 116 = .ok (.iload_n 3, 1) := by decide +kernel
theorem d_T_takeOutcome_117 : decode b_T_takeOutcome 117 = .ok (.iload 4, 2) := by decide +kernel
theorem d_T_takeOutcome_119 : decode b_T_takeOutcome 119 = .ok (.invokevirtual 248, 3) := by decide +kernel
theorem d_T_takeOutcome_122 : decode b_T_takeOutcome 122 = .ok (.iinc 2 1, 3) := by decide +kernel
theorem d_T_takeOutcome_125 : decode b_T_takeOutcome 125 = .ok (.goto (-81), 3) := by decide +kernel
theorem d_T_takeOutcome_128 : decode b_T_takeOutcome 128 = .ok (.aload_n 0, 1) := by decide +kernel
theorem d_T_takeOutcome_129 : decode b_T_takeOutcome 129 = .ok (.aload_n 0, 1) := by decide +kernel
theorem d_T_takeOutcome_130 : decode b_T_takeOutcome 130 = .ok (.getfield 37, 3) := by decide +kernel
theorem d_T_takeOutcome_133 : decode b_T_takeOutcome 133 = .ok (.getfield 251, 3) := by decide +kernel
theorem d_T_takeOutcome_136 : decode b_T_takeOutcome 136 = .ok (.putfield 146, 3) := by decide +kernel
theorem d_T_takeOutcome_139 : decode b_T_takeOutcome 139 = .ok (.aload_n 0, 1) := by decide +kernel
theorem d_T_takeOutcome_140 : decode b_T_takeOutcome 140 = .ok (.iconst 1, 1) := by decide +kernel
theorem d_T_takeOutcome_141 : decode b_T_takeOutcome 141 = .ok (.putfield 186, 3) := by decide +kernel
theorem d_T_takeOutcome_144 : decode b_T_takeOutcome 144 = .ok (.iconst 1, 1) := by decide +kernel
theorem d_T_takeOutcome_145 : decode b_T_takeOutcome 145 = .ok (.ireturn, 1) := by decide +kernel
theorem d_T_canStartLater_0 : decode b_T_canStartLater 0 = .ok (.aload_n 0, 1) := by decide +kernel
theorem d_T_canStartLater_1 : decode b_T_canStartLater 1 = .ok (.getfield 44, 3) := by decide +kernel
theorem d_T_canStartLater_4 : decode b_T_canStartLater 4 = .ok (.aload_n 0, 1) := by decide +kernel
theorem d_T_canStartLater_5 : decode b_T_canStartLater 5 = .ok (.getfield 10, 3) := by decide +kernel
theorem d_T_canStartLater_8 : decode b_T_canStartLater 8 = .ok (.getfield 115, 3) := by decide +kernel
theorem d_T_canStartLater_11 : decode b_T_canStartLater 11 = .ok (.iload_n 2, 1) := by decide +kernel
theorem d_T_canStartLater_12 : decode b_T_canStartLater 12 = .ok (.invokevirtual 254, 3) := by decide +kernel
theorem d_T_canStartLater_15 : decode b_T_canStartLater 15 = .ok (.invokevirtual 257, 3) := by decide +kernel
theorem d_T_canStartLater_18 : decode b_T_canStartLater 18 = .ok (.ifCond .eq 46, 3) := by decide +kernel
theorem d_T_canStartLater_21 : decode b_T_canStartLater 21 = .ok (.aload_n 0, 1) := by decide +kernel
theorem d_T_canStartLater_22 : decode b_T_canStartLater 22 = .ok (.getfield 10, 3) := by decide +kernel
theorem d_T_canStartLater_25 : decode b_T_canStartLater 25 = .ok (.iload_n 1, 1) := by decide +kernel
theorem d_T_canStartLater_26 : decode b_T_canStartLater 26 = .ok (.iload_n 2, 1) := by decide +kernel
theorem d_T_canStartLater_27 : decode b_T_canStartLater 27 = .ok (.invokevirtual 162, 3) := by decide +kernel
theorem d_T_canStartLater_30 : decode b_T_canStartLater 30 = .ok (.aload_n 0, 1) := by decide +kernel
theorem d_T_canStartLater_31 : decode b_T_canStartLater 31 = .ok (.getfield 146, 3) := by decide +kernel
theorem d_T_canStartLater_34 : decode b_T_canStartLater 34 = .ok (.if_icmp .gt 30, 3) := by decide +kernel
theorem d_T_canStartLater_37 : decode b_T_canStartLater 37 = .ok (.aload_n 0, 1) := by decide +kernel
theorem d_T_canStartLater_38 : decode b_T_canStartLater 38 = .ok (.getfield 21, 3) := by decide +kernel
theorem d_T_canStartLater_41 : decode b_T_canStartLater 41 = .ok (.aload_n 0, 1) := by decide +kernel
theorem d_T_canStartLater_42 : decode b_T_canStartLater 42 = .ok (.getfield 28, 3) := by decide +kernel
theorem d_T_canStartLater_45 : decode b_T_canStartLater 45 = .ok (.iload_n 1, 1) := by decide +kernel
theorem d_T_canStartLater_46 : decode b_T_canStartLater 46 = .ok (.iload_n 2, 1) := by decide +kernel
theorem d_T_canStartLater_47 : decode b_T_canStartLater 47 = .ok (.aload_n 0, 1) := by decide +kernel
theorem d_T_canStartLater_48 : decode b_T_canStartLater 48 = .ok (.getfield 10, 3) := by decide +kernel
theorem d_T_canStartLater_51 : decode b_T_canStartLater 51 = .ok (.getfield 80, 3) := by decide +kernel
theorem d_T_canStartLater_54 : decode b_T_canStartLater 54 = .ok (.invokevirtual 260, 3) := by decide +kernel
theorem d_T_canStartLater_57 : decode b_T_canStartLater 57 = .ok (.ifCond .eq 7, 3) := by decide +kernel
theorem d_T_canStartLater_60 : decode b_T_canStartLater 60 = .ok (.iconst 1, 1) := by decide +kernel
theorem d_T_canStartLater_61 : decode b_T_canStartLater 61 = .ok (.goto 4, 3) := by decide +kernel
theorem d_T_canStartLater_64 : decode b_T_canStartLater 64 = .ok (.iconst 0, 1) := by decide +kernel
theorem d_T_canStartLater_65 : decode b_T_canStartLater 65 = .ok (.ireturn, 1) := by decide +kernel
theorem d_T_commonDivisor_0 : decode b_T_commonDivisor 0 = .ok (.iload_n 1, 1) := by decide +kernel
theorem d_T_commonDivisor_1 : decode b_T_commonDivisor 1 = .ok (.istore_n 2, 1) := by decide +kernel
theorem d_T_commonDivisor_2 : decode b_T_commonDivisor 2 = .ok (.iload_n 2, 1) := by decide +kernel
theorem d_T_commonDivisor_3 : decode b_T_commonDivisor 3 = .ok (.iconst 1, 1) := by decide +kernel
theorem d_T_commonDivisor_4 : decode b_T_commonDivisor 4 = .ok (.if_icmp .le 23, 3) := by decide +kernel
theorem d_T_commonDivisor_7 : decode b_T_commonDivisor 7 = .ok (.iload_n 0, 1) := by decide +kernel
theorem d_T_commonDivisor_8 : decode b_T_commonDivisor 8 = .ok (.iload_n 2, 1) := by decide +kernel
theorem d_T_commonDivisor_9 : decode b_T_commonDivisor 9 = .ok (.irem, 1) := by decide +kernel
theorem d_T_commonDivisor_10 : decode b_T_commonDivisor 10 = .ok (.ifCond .ne 11, 3) := by decide +kernel
theorem d_T_commonDivisor_13 : decode b_T_commonDivisor 13 = .ok (.iload_n 1, 1) := by decide +kernel
theorem d_T_commonDivisor_14 : decode b_T_commonDivisor 14 = .ok (.iload_n 2, 1) := by decide +kernel
theorem d_T_commonDivisor_15 : decode b_T_commonDivisor 15 = .ok (.irem, 1) := by decide +kernel
theorem d_T_commonDivisor_16 : decode b_T_commonDivisor 16 = .ok (.ifCond .ne 5, 3) := by decide +kernel
theorem d_T_commonDivisor_19 : decode b_T_commonDivisor 19 = .ok (.iload_n 2, 1) := by decide +kernel
theorem d_T_commonDivisor_20 : decode b_T_commonDivisor 20 = .ok (.ireturn, 1) := by decide +kernel
theorem d_T_commonDivisor_21 : decode b_T_commonDivisor 21 = .ok (.iinc 2 (-1), 3) := by decide +kernel
theorem d_T_commonDivisor_24 : decode b_T_commonDivisor 24 = .ok (.goto (-22), 3) := by decide +kernel
theorem d_T_commonDivisor_27 : decode b_T_commonDivisor 27 = .ok (.iconst 1, 1) := by decide +kernel
theorem d_T_commonDivisor_28 : decode b_T_commonDivisor 28 = .ok (.ireturn, 1) := by decide +kernel
end
section
theorem d_M_init_0 : decode b_M_init 0 = .ok (.aload_n 0, 1) := by decide +kernel
theorem d_M_init_1 : decode b_M_init 1 = .ok (.invokespecial 1, 3) := by decide +kernel
theorem d_M_init_4 : decode b_M_init 4 = .ok (.aload_n 0, 1) := by decide +kernel
theorem d_M_init_5 : decode b_M_init 5 = .ok (.iconst 4, 1) := by decide +kernel
theorem d_M_init_6 : decode b_M_init 6 = .ok (.newarray .int, 2) := by decide +kernel
theorem d_M_init_8 : decode b_M_init 8 = .ok (.putfield 7, 3) := by decide +kernel
theorem d_M_init_11 : decode b_M_init 11 = .ok (.aload_n 0, 1) := by decide +kernel
theorem d_M_init_12 : decode b_M_init 12 = .ok (.bipush 6, 2) := by decide +kernel
theorem d_M_init_14 : decode b_M_init 14 = .ok (.newarray .int, 2) := by decide +kernel
theorem d_M_init_16 : decode b_M_init 16 = .ok (.putfield 13, 3) := by decide +kernel
theorem d_M_init_19 : decode b_M_init 19 = .ok (.aload_n 0, 1) := by decide +kernel
theorem d_M_init_20 : decode b_M_init 20 = .ok (.bipush 6, 2) := by decide +kernel
theorem d_M_init_22 : decode b_M_init 22 = .ok (.newarray .int, 2) := by decide +kernel
theorem d_M_init_24 : decode b_M_init 24 = .ok (.putfield 16, 3) := by decide +kernel
theorem d_M_init_27 : decode b_M_init 27 = .ok (.aload_n 0, 1) := by decide +kernel
theorem d_M_init_28 : decode b_M_init 28 = .ok (.bipush 6, 2) := by decide +kernel
theorem d_M_init_30 : decode b_M_init 30 = .ok (.newarray .int, 2) := by decide +kernel
theorem d_M_init_32 : decode b_M_init 32 = .ok (.putfield 19, 3) := by decide +kernel
theorem d_M_init_35 : decode b_M_init 35 = .ok (.aload_n 0, 1) := by decide +kernel
theorem d_M_init_36 : decode b_M_init 36 = .ok (.bipush 6, 2) := by decide +kernel
theorem d_M_init_38 : decode b_M_init 38 = .ok (.newarray .int, 2) := by decide +kernel
theorem d_M_init_40 : decode b_M_init 40 = .ok (.putfield 22, 3) := by decide +kernel
theorem d_M_init_43 : decode b_M_init 43 = .ok (.aload_n 0, 1) := by decide +kernel
theorem d_M_init_44 : decode b_M_init 44 = .ok (.bipush 6, 2) := by decide +kernel
theorem d_M_init_46 : decode b_M_init 46 = .ok (.newarray .boolean, 2) := by decide +kernel
theorem d_M_init_48 : decode b_M_init 48 = .ok (.putfield 25, 3) := by decide +kernel
theorem d_M_init_51 : decode b_M_init 51 = .ok (.aload_n 0, 1) := by decide +kernel
theorem d_M_init_52 : decode b_M_init 52 = .ok (.bipush 36, 2) := by decide +kernel
theorem d_M_init_54 : decode b_M_init 54 = .ok (.newarray .int, 2) := by decide +kernel
theorem d_M_init_56 : decode b_M_init 56 = .ok (.putfield 29, 3) := by decide +kernel
theorem d_M_init_59 : decode b_M_init 59 = .ok (.aload_n 0, 1) := by decide +kernel
theorem d_M_init_60 : decode b_M_init 60 = .ok (.bipush 6, 2) := by decide +kernel
theorem d_M_init_62 : decode b_M_init 62 = .ok (.newarray .int, 2) := by decide +kernel
theorem d_M_init_64 : decode b_M_init 64 = .ok (.putfield 32, 3) := by decide +kernel
theorem d_M_init_67 : decode b_M_init 67 = .ok (.aload_n 0, 1) := by decide +kernel
theorem d_M_init_68 : decode b_M_init 68 = .ok (.bipush 6, 2) := by decide +kernel
theorem d_M_init_70 : decode b_M_init 70 = .ok (.newarray .int, 2) := by decide +kernel
theorem d_M_init_72 : decode b_M_init 72 = .ok (.putfield 35, 3) := by decide +kernel
theorem d_M_init_75 : decode b_M_init 75 = .ok (.aload_n 0, 1) := by decide +kernel
theorem d_M_init_76 : decode b_M_init 76 = .ok (.bipush 8, 2) := by decide +kernel
theorem d_M_init_78 : decode b_M_init 78 = .ok (.newarray .int, 2) := by decide +kernel
theorem d_M_init_80 : decode b_M_init 80 = .ok (.putfield 38, 3) := by decide +kernel
theorem d_M_init_83 : decode b_M_init 83 = .ok (.aload_n 0, 1) := by decide +kernel
theorem d_M_init_84 : decode b_M_init 84 = .ok (.bipush 8, 2) := by decide +kernel
theorem d_M_init_86 : decode b_M_init 86 = .ok (.newarray .int, 2) := by decide +kernel
theorem d_M_init_88 : decode b_M_init 88 = .ok (.putfield 41, 3) := by decide +kernel
theorem d_M_init_91 : decode b_M_init 91 = .ok (.aload_n 0, 1) := by decide +kernel
theorem d_M_init_92 : decode b_M_init 92 = .ok (.bipush 8, 2) := by decide +kernel
theorem d_M_init_94 : decode b_M_init 94 = .ok (.newarray .int, 2) := by decide +kernel
theorem d_M_init_96 : decode b_M_init 96 = .ok (.putfield 44, 3) := by decide +kernel
theorem d_M_init_99 : decode b_M_init 99 = .ok (.aload_n 0, 1) := by decide +kernel
theorem d_M_init_100 : decode b_M_init 100 = .ok (.sipush 200, 3) := by decide +kernel
theorem d_M_init_103 : decode b_M_init 103 = .ok (.newarray .boolean, 2) := by decide +kernel
theorem d_M_init_105 : decode b_M_init 105 = .ok (.putfield 47, 3) := by decide +kernel
theorem d_M_init_108 : decode b_M_init 108 = .ok (.aload_n 0, 1) := by decide +kernel
theorem d_M_init_109 : decode b_M_init 109 = .ok (.sipush 400, 3) := by decide +kernel
theorem d_M_init_112 : decode b_M_init 112 = .ok (.newarray .boolean, 2) := by decide +kernel
theorem d_M_init_114 : decode b_M_init 114 = .ok (.putfield 50, 3) := by decide +kernel
theorem d_M_init_117 : decode b_M_init 117 = .ok (.aload_n 0, 1) := by decide +kernel
theorem d_M_init_118 : decode b_M_init 118 = .ok (.iconst 4, 1) := by decide +kernel
theorem d_M_init_119 : decode b_M_init 119 = .ok (.newarray .int, 2) := by decide +kernel
theorem d_M_init_121 : decode b_M_init 121 = .ok (.putfield 53, 3) := by decide +kernel
theorem d_M_init_124 : decode b_M_init 124 = .ok (.aload_n 0, 1) := by decide +kernel
theorem d_M_init_125 : decode b_M_init 125 = .ok (.bipush 6, 2) := by decide +kernel
theorem d_M_init_127 : decode b_M_init 127 = .ok (.newarray .int, 2) := by decide +kernel
theorem d_M_init_129 : decode b_M_init 129 = .ok (.putfield 56, 3) := by decide +kernel
theorem d_M_init_132 : decode b_M_init 132 = .ok (.aload_n 0, 1) := by decide +kernel
theorem d_M_init_133 : decode b_M_init 133 = .ok (.bipush 6, 2) := by decide +kernel
theorem d_M_init_135 : decode b_M_init 135 = .ok (.newarray .int, 2) := by decide +kernel
theorem d_M_init_137 : decode b_M_init 137 = .ok (.putfield 59, 3) := by decide +kernel
theorem d_M_init_140 : decode b_M_init 140 = .ok (.aload_n 0, 1) := by decide +kernel
theorem d_M_init_141 : decode b_M_init 141 = .ok (.bipush 6, 2) := by decide +kernel
theorem d_M_init_143 : decode b_M_init 143 = .ok (.newarray .boolean, 2) := by decide +kernel
theorem d_M_init_145 : decode b_M_init 145 = .ok (.putfield 62, 3) := by decide +kernel
theorem d_M_init_148 : decode b_M_init 148 = .ok (.aload_n 0, 1) := by decide +kernel
theorem d_M_init_149 : decode b_M_init 149 = .ok (.bipush 6, 2) := by decide +kernel
theorem d_M_init_151 : decode b_M_init 151 = .ok (.newarray .int, 2) := by decide +kernel
theorem d_M_init_153 : decode b_M_init 153 = .ok (.putfield 65, 3) := by decide +kernel
theorem d_M_init_156 : decode b_M_init 156 = .ok (.aload_n 0, 1) := by decide +kernel
theorem d_M_init_157 : decode b_M_init 157 = .ok (.bipush 6, 2) := by decide +kernel
theorem d_M_init_159 : decode b_M_init 159 = .ok (.newarray .boolean, 2) := by decide +kernel
theorem d_M_init_161 : decode b_M_init 161 = .ok (.putfield 68, 3) := by decide +kernel
theorem d_M_init_164 : decode b_M_init 164 = .ok (.aload_n 0, 1) := by decide +kernel
theorem d_M_init_165 : decode b_M_init 165 = .ok (.bipush 7, 2) := by decide +kernel
theorem d_M_init_167 : decode b_M_init 167 = .ok (.newarray .int, 2) := by decide +kernel
theorem d_M_init_169 : decode b_M_init 169 = .ok (.putfield 71, 3) := by decide +kernel
theorem d_M_init_172 : decode b_M_init 172 = .ok (.aload_n 0, 1) := by decide +kernel
theorem d_M_init_173 : decode b_M_init 173 = .ok (.bipush 7, 2) := by decide +kernel
theorem d_M_init_175 : decode b_M_init 175 = .ok (.newarray .int, 2) := by decide +kernel
theorem d_M_init_177 : decode b_M_init 177 = .ok (.putfield 74, 3) := by decide +kernel
theorem d_M_init_180 : decode b_M_init 180 = .ok (.aload_n 0, 1) := by decide +kernel
theorem d_M_init_181 : decode b_M_init 181 = .ok (.bipush 7, 2) := by decide +kernel
theorem d_M_init_183 : decode b_M_init 183 = .ok (.newarray .int, 2) := by decide +kernel
theorem d_M_init_185 : decode b_M_init 185 = .ok (.putfield 77, 3) := by decide +kernel
theorem d_M_init_188 : decode b_M_init 188 = .ok (.aload_n 0, 1) := by decide +kernel
theorem d_M_init_189 : decode b_M_init 189 = .ok (.sipush 1407, 3) := by decide +kernel
theorem d_M_init_192 : decode b_M_init 192 = .ok (.newarray .int, 2) := by decide +kernel
theorem d_M_init_194 : decode b_M_init 194 = .ok (.putfield 80, 3) := by decide +kernel
theorem d_M_init_197 : decode b_M_init 197 = .ok (.aload_n 0, 1) := by decide +kernel
theorem d_M_init_198 : decode b_M_init 198 = .ok (.sipush 1407, 3) := by decide +kernel
theorem d_M_init_201 : decode b_M_init 201 = .ok (.newarray .int, 2) := by decide +kernel
theorem d_M_init_203 : decode b_M_init 203 = .ok (.putfield 83, 3) := by decide +kernel
theorem d_M_init_206 : decode b_M_init 206 = .ok (.aload_n 0, 1) := by decide +kernel
theorem d_M_init_207 : decode b_M_init 207 = .ok (.bipush 6, 2) := by decide +kernel
theorem d_M_init_209 : decode b_M_init 209 = .ok (.newarray .int, 2) := by decide +kernel
theorem d_M_init_211 : decode b_M_init 211 = .ok (.putfield 86, 3) := by decide +kernel
theorem d_M_init_214 : decode b_M_init 214 = .ok (.aload_n 0, 1) := by decide +kernel
theorem d_M_init_215 : decode b_M_init 215 = .ok (.bipush 6, 2) := by decide +kernel
theorem d_M_init_217 : decode b_M_init 217 = .ok (.newarray .int, 2) := by decide +kernel
theorem d_M_init_219 : decode b_M_init 219 = .ok (.putfield 89, 3) := by decide +kernel
theorem d_M_init_222 : decode b_M_init 222 = .ok (.aload_n 0, 1) := by decide +kernel
theorem d_M_init_223 : decode b_M_init 223 = .ok (.bipush 6, 2) := by decide +kernel
theorem d_M_init_225 : decode b_M_init 225 = .ok (.newarray .int, 2) := by decide +kernel
theorem d_M_init_227 : decode b_M_init 227 = .ok (.putfield 92, 3) := by decide +kernel
theorem d_M_init_230 : decode b_M_init 230 = .ok (.iconst 0, 1) := by decide +kernel
theorem d_M_init_231 : decode b_M_init 231 = .ok (.istore_n 1, 1) := by decide +kernel
theorem d_M_init_232 : decode b_M_init 232 = .ok (.iload_n 1, 1) := by decide +kernel
theorem d_M_init_233 : decode b_M_init 233 = .ok (.iconst 4, 1) := by decide +kernel
theorem d_M_init_234 : decode b_M_init 234 = .ok (.if_icmp .ge 16, 3) := by decide +kernel
theorem d_M_init_237 : decode b_M_init 237 = .ok (.aload_n 0, 1) := by decide +kernel
theorem d_M_init_238 : decode b_M_init 238 = .ok (.getfield 53, 3) := by decide +kernel
theorem d_M_init_241 : decode b_M_init 241 = .ok (.iload_n 1, 1) := by decide +kernel
theorem d_M_init_242 : decode b_M_init 242 = .ok (.iconst 4, 1) := by decide +kernel
theorem d_M_init_243 : decode b_M_init 243 = .ok (.iastore, 1) := by decide +kernel
theorem d_M_init_244 : decode b_M_init 244 = .ok (.iinc 1 1, 3) := by decide +kernel
theorem d_M_init_247 : decode b_M_init 247 = .ok (.goto (-15), 3) := by decide +kernel
theorem d_M_init_250 : decode b_M_init 250 = .ok (.return_, 1) := by decide +kernel
theorem d_M_within_0 : decode b_M_within 0 = .ok (.iload_n 0, 1) := by decide +kernel
theorem d_M_within_1 : decode b_M_within 1 = .ok (.iload_n 1, 1) := by decide +kernel
theorem d_M_within_2 : decode b_M_within 2 = .ok (.if_icmp .lt 12, 3) := by decide +kernel
theorem d_M_within_5 : decode b_M_within 5 = .ok (.iload_n 0, 1) := by decide +kernel
theorem d_M_within_6 : decode b_M_within 6 = .ok (.iload_n 2, 1) := by decide +kernel
theorem d_M_within_7 : decode b_M_within 7 = .ok (.if_icmp .gt 7, 3) := by decide +kernel
theorem d_M_within_10 : decode b_M_within 10 = .ok (.iconst 1, 1) := by decide +kernel
theorem d_M_within_11 : decode b_M_within 11 = .ok (.goto 4, 3) := by decide +kernel
theorem d_M_within_14 : decode b_M_within 14 = .ok (.iconst 0, 1) := by decide +kernel
theorem d_M_within_15 : decode b_M_within 15 = .ok (.ireturn, 1) := by decide +kernel
theorem d_M_isWork_0 : decode b_M_isWork 0 = .ok (.iload_n 1, 1) := by decide +kernel
theorem d_M_isWork_1 : decode b_M_isWork 1 = .ok (.ifCond .lt 15, 3) := by decide +kernel
theorem d_M_isWork_4 : decode b_M_isWork 4 = .ok (.iload_n 1, 1) := by decide +kernel
theorem d_M_isWork_5 : decode b_M_isWork 5 = .ok (.aload_n 0, 1) := by decide +kernel
theorem d_M_isWork_6 : decode b_M_isWork 6 = .ok (.getfield 95, 3) := by decide +kernel
theorem d_M_isWork_9 : decode b_M_isWork 9 = .ok (.if_icmp .ge 7, 3) := by decide +kernel
theorem d_M_isWork_12 : decode b_M_isWork 12 = .ok (.iconst 1, 1) := by decide +kernel
theorem d_M_isWork_13 : decode b_M_isWork 13 = .ok (.goto 4, 3) := by decide +kernel
theorem d_M_isWork_16 : decode b_M_isWork 16 = .ok (.iconst 0, 1) := by decide +kernel
theorem d_M_isWork_17 : decode b_M_isWork 17 = .ok (.ireturn, 1) := by decide +kernel
theorem d_M_changed_0 : decode b_M_changed 0 = .ok (.aload_n 0, 1) := by decide +kernel
theorem d_M_changed_1 : decode b_M_changed 1 = .ok (.iconst 0, 1) := by decide +kernel
theorem d_M_changed_2 : decode b_M_changed 2 = .ok (.putfield 99, 3) := by decide +kernel
theorem d_M_changed_5 : decode b_M_changed 5 = .ok (.iconst 0, 1) := by decide +kernel
theorem d_M_changed_6 : decode b_M_changed 6 = .ok (.istore_n 1, 1) := by decide +kernel
theorem d_M_changed_7 : decode b_M_changed 7 = .ok (.iload_n 1, 1) := by decide +kernel
theorem d_M_changed_8 : decode b_M_changed 8 = .ok (.bipush 6, 2) := by decide +kernel
theorem d_M_changed_10 : decode b_M_changed 10 = .ok (.if_icmp .ge 30, 3) := by decide +kernel
theorem d_M_changed_13 : decode b_M_changed 13 = .ok (.aload_n 0, 1) := by decide +kernel
theorem d_M_changed_14 : decode b_M_changed 14 = .ok (.getfield 62, 3) := by decide +kernel
theorem d_M_changed_17 : decode b_M_changed 17 = .ok (.iload_n 1, 1) := by decide +kernel
theorem d_M_changed_18 : decode b_M_changed 18 = .ok (.iconst 0, 1) := by decide +kernel
theorem d_M_changed_19 : decode b_M_changed 19 = .ok (.bastore, 1) := by decide +kernel
theorem d_M_changed_20 : decode b_M_changed 20 = .ok (.aload_n 0, 1) := by decide +kernel
theorem d_M_changed_21 : decode b_M_changed 21 = .ok (.getfield 65, 3) := by decide +kernel
theorem d_M_changed_24 : decode b_M_changed 24 = .ok (.iload_n 1, 1) := by decide +kernel
theorem d_M_changed_25 : decode b_M_changed 25 = .ok (.iconst 0, 1) := by decide +kernel
theorem d_M_changed_26 : decode b_M_changed 26 = .ok (.iastore, 1) := by decide +kernel
theorem d_M_changed_27 : decode b_M_changed 27 = .ok (.aload_n 0, 1) := by decide +kernel
theorem d_M_changed_28 : decode b_M_changed 28 = .ok (.getfield 68, 3) := by decide +kernel
theorem d_M_changed_31 : decode b_M_changed 31 = .ok (.iload_n 1, 1) := by decide +kernel
theorem d_M_changed_32 : decode b_M_changed 32 = .ok (.iconst 0, 1) := by decide +kernel
theorem d_M_changed_33 : decode b_M_changed 33 = .ok (.bastore, 1) := by decide +kernel
theorem d_M_changed_34 : decode b_M_changed 34 = .ok (.iinc 1 1, 3) := by decide +kernel
theorem d_M_changed_37 : decode b_M_changed 37 = .ok (.goto (-30), 3) := by decide +kernel
theorem d_M_changed_40 : decode b_M_changed 40 = .ok (.return_, 1) := by decide +kernel
theorem d_M_crew_0 : decode b_M_crew 0 = .ok (.iload_n 1, 1) := by decide +kernel
theorem d_M_crew_1 : decode b_M_crew 1 = .ok (.iconst 0, 1) := by decide +kernel
theorem d_M_crew_2 : decode b_M_crew 2 = .ok (.iconst 3, 1) := by decide +kernel
theorem d_M_crew_3 : decode b_M_crew 3 = .ok (.invokestatic 103, 3) := by decide +kernel
theorem d_M_crew_6 : decode b_M_crew 6 = .ok (.ifCond .eq 11, 3) := by decide +kernel
theorem d_M_crew_9 : decode b_M_crew 9 = .ok (.aload_n 0, 1) := by decide +kernel
theorem d_M_crew_10 : decode b_M_crew 10 = .ok (.getfield 107, 3) := by decide +kernel
theorem d_M_crew_13 : decode b_M_crew 13 = .ok (.iconst 4, 1) := by decide +kernel
theorem d_M_crew_14 : decode b_M_crew 14 = .ok (.if_icmp .ne 5, 3) := by decide +kernel
theorem d_M_crew_17 : decode b_M_crew 17 = .ok (.iconst (-1), 1) := by decide +kernel
theorem d_M_crew_18 : decode b_M_crew 18 = .ok (.ireturn, 1) := by decide +kernel
theorem d_M_crew_19 : decode b_M_crew 19 = .ok (.aload_n 0, 1) := by decide +kernel
theorem d_M_crew_20 : decode b_M_crew 20 = .ok (.getfield 7, 3) := by decide +kernel
theorem d_M_crew_23 : decode b_M_crew 23 = .ok (.aload_n 0, 1) := by decide +kernel
theorem d_M_crew_24 : decode b_M_crew 24 = .ok (.getfield 107, 3) := by decide +kernel
theorem d_M_crew_27 : decode b_M_crew 27 = .ok (.iload_n 1, 1) := by decide +kernel
theorem d_M_crew_28 : decode b_M_crew 28 = .ok (.iastore, 1) := by decide +kernel
theorem d_M_crew_29 : decode b_M_crew 29 = .ok (.aload_n 0, 1) := by decide +kernel
theorem d_M_crew_30 : decode b_M_crew 30 = .ok (.dup, 1) := by decide +kernel
theorem d_M_crew_31 : decode b_M_crew 31 = .ok (.getfield 107, 3) := by decide +kernel
theorem d_M_crew_34 : decode b_M_crew 34 = .ok (.iconst 1, 1) := by decide +kernel
theorem d_M_crew_35 : decode b_M_crew 35 = .ok (.iadd, 1) := by decide +kernel
theorem d_M_crew_36 : decode b_M_crew 36 = .ok (.putfield 107, 3) := by decide +kernel
theorem d_M_crew_39 : decode b_M_crew 39 = .ok (.aload_n 0, 1) := by decide +kernel
theorem d_M_crew_40 : decode b_M_crew 40 = .ok (.invokevirtual 110, 3) := by decide +kernel
theorem d_M_crew_43 : decode b_M_crew 43 = .ok (.aload_n 0, 1) := by decide +kernel
theorem d_M_crew_44 : decode b_M_crew 44 = .ok (.getfield 107, 3) := by decide +kernel
theorem d_M_crew_47 : decode b_M_crew 47 = .ok (.iconst 1, 1) := by decide +kernel
theorem d_M_crew_48 : decode b_M_crew 48 = .ok (.isub, 1) := by decide +kernel
theorem d_M_crew_49 : decode b_M_crew 49 = .ok (.ireturn, 1) := by decide +kernel
theorem d_M_work_0 : decode b_M_work 0 = .ok (.iload_n 1, 1) := by decide +kernel
theorem d_M_work_1 : decode b_M_work 1 = .ok (.iconst 0, 1) := by decide +kernel
theorem d_M_work_2 : decode b_M_work 2 = .ok (.aload_n 0, 1) := by decide +kernel
theorem d_M_work_3 : decode b_M_work 3 = .ok (.getfield 107, 3) := by decide +kernel
theorem d_M_work_6 : decode b_M_work 6 = .ok (.iconst 1, 1) := by decide +kernel
theorem d_M_work_7 : decode b_M_work 7 = .ok (.isub, 1) := by decide +kernel
theorem d_M_work_8 : decode b_M_work 8 = .ok (.invokestatic 103, 3) := by decide +kernel
theorem d_M_work_11 : decode b_M_work 11 = .ok (.ifCond .eq 47, 3) := by decide +kernel
theorem d_M_work_14 : decode b_M_work 14 = .ok (.iload_n 2, 1) := by decide +kernel
theorem d_M_work_15 : decode b_M_work 15 = .ok (.iconst 0, 1) := by decide +kernel
theorem d_M_work_16 : decode b_M_work 16 = .ok (.sipush 199, 3) := by decide +kernel
theorem d_M_work_19 : decode b_M_work 19 = .ok (.invokestatic 103, 3) := by decide +kernel
theorem d_M_work_22 : decode b_M_work 22 = .ok (.ifCond .eq 36, 3) := by decide +kernel
theorem d_M_work_25 : decode b_M_work 25 = .ok (.iload_n 3, 1) := by decide +kernel
theorem d_M_work_26 : decode b_M_work 26 = .ok (.iload_n 2, 1) := by decide +kernel
theorem d_M_work_27 : decode b_M_work 27 = .ok (.iconst 1, 1) := by decide +kernel
theorem d_M_work_28 : decode b_M_work 28 = .ok (.iadd, 1) := by decide +kernel
theorem d_M_work_29 : decode b_M_work 29 = .ok (.sipush 200, 3) := by decide +kernel
theorem d_M_work_32 : decode b_M_work 32 = .ok (.invokestatic 103, 3) := by decide +kernel
theorem d_M_work_35 : decode b_M_work 35 = .ok (.ifCond .eq 23, 3) := by decide +kernel
theorem d_M_work_38 : decode b_M_work 38 = .ok (.iload 4, 2) := by decide +kernel
theorem d_M_work_40 : decode b_M_work 40 = .ok (.iconst 1, 1) := by decide +kernel
theorem d_M_work_41 : decode b_M_work 41 = .ok (.bipush 50, 2) := by decide +kernel
theorem d_M_work_43 : decode b_M_work 43 = .ok (.invokestatic 103, 3) := by decide +kernel
theorem d_M_work_46 : decode b_M_work 46 = .ok (.ifCond .eq 12, 3) := by decide +kernel
theorem d_M_work_49 : decode b_M_work 49 = .ok (.aload_n 0, 1) := by decide +kernel
theorem d_M_work_50 : decode b_M_work 50 = .ok (.getfield 95, 3) := by decide +kernel
theorem d_M_work_53 : decode b_M_work 53 = .ok (.bipush 6, 2) := by decide +kernel
theorem d_M_work_55 : decode b_M_work 55 = .ok (.if_icmp .ne 5, 3) := by decide +kernel
theorem d_M_work_58 : decode b_M_work 58 = .ok (.iconst (-1), 1) := by decide +kernel
theorem d_M_work_59 : decode b_M_work 59 = .ok (.ireturn, 1) := by decide +kernel
theorem d_M_work_60 : decode b_M_work 60 = .ok (.aload_n 0, 1) := by decide +kernel
theorem d_M_work_61 : decode b_M_work 61 = .ok (.getfield 13, 3) := by decide +kernel
theorem d_M_work_64 : decode b_M_work 64 = .ok (.aload_n 0, 1) := by decide +kernel
theorem d_M_work_65 : decode b_M_work 65 = .ok (.getfield 95, 3) := by decide +kernel
theorem d_M_work_68 : decode b_M_work 68 = .ok (.iload_n 1, 1) := by decide +kernel
theorem d_M_work_69 : decode b_M_work 69 = .ok (.iastore, 1) := by decide +kernel
theorem d_M_work_70 : decode b_M_work 70 = .ok (.aload_n 0, 1) := by decide +kernel
theorem d_M_work_71 : decode b_M_work 71 = .ok (.getfield 16, 3) := by decide +kernel
theorem d_M_work_74 : decode b_M_work 74 = .ok (.aload_n 0, 1) := by decide +kernel
theorem d_M_work_75 : decode b_M_work 75 = .ok (.getfield 95, 3) := by decide +kernel
theorem d_M_work_78 : decode b_M_work 78 = .ok (.iload_n 2, 1) := by decide +kernel
theorem d_M_work_79 : decode b_M_work 79 = .ok (.iastore, 1) := by decide +kernel
theorem d_M_work_80 : decode b_M_work 80 = .ok (.aload_n 0, 1) := by decide +kernel
theorem d_M_work_81 : decode b_M_work 81 = .ok (.getfield 19, 3) := by decide +kernel
theorem d_M_work_84 : decode b_M_work 84 = .ok (.aload_n 0, 1) := by decide +kernel
theorem d_M_work_85 : decode b_M_work 85 = .ok (.getfield 95, 3) := by decide +kernel
theorem d_M_work_88 : decode b_M_work 88 = .ok (.iload_n 3, 1) := by decide +kernel
theorem d_M_work_89 : decode b_M_work 89 = .ok (.iastore, 1) := by decide +kernel
theorem d_M_work_90 : decode b_M_work 90 = .ok (.aload_n 0, 1) := by decide +kernel
theorem d_M_work_91 : decode b_M_work 91 = .ok (.getfield 22, 3) := by decide +kernel
theorem d_M_work_94 : decode b_M_work 94 = .ok (.aload_n 0, 1) := by decide +kernel
theorem d_M_work_95 : decode b_M_work 95 = .ok (.getfield 95, 3) := by decide +kernel
theorem d_M_work_98 : decode b_M_work 98 = .ok (.iload 4, 2) := by decide +kernel
theorem d_M_work_100 : decode b_M_work 100 = .ok (.iastore, 1) := by decide +kernel
theorem d_M_work_101 : decode b_M_work 101 = .ok (.aload_n 0, 1) := by decide +kernel
theorem d_M_work_102 : decode b_M_work 102 = .ok (.getfield 25, 3) := by decide +kernel
theorem d_M_work_105 : decode b_M_work 105 = .ok (.aload_n 0, 1) := by decide +kernel
theorem d_M_work_106 : decode b_M_work 106 = .ok (.getfield 95, 3) := by decide +kernel
theorem d_M_work_109 : decode b_M_work 109 = .ok (.iload 5, 2) := by decide +kernel
theorem d_M_work_111 : decode b_M_work 111 = .ok (.bastore, 1) := by decide +kernel
theorem d_M_work_112 : decode b_M_work 112 = .ok (.aload_n 0, 1) := by decide +kernel
theorem d_M_work_113 : decode b_M_work 113 = .ok (.getfield 32, 3) := by decide +kernel
theorem d_M_work_116 : decode b_M_work 116 = .ok (.aload_n 0, 1) := by decide +kernel
theorem d_M_work_117 : decode b_M_work 117 = .ok (.getfield 95, 3) := by decide +kernel
theorem d_M_work_120 : decode b_M_work 120 = .ok (.iconst 0, 1) := by decide +kernel
theorem d_M_work_121 : decode b_M_work 121 = .ok (.iastore, 1) := by decide +kernel
theorem d_M_work_122 : decode b_M_work 122 = .ok (.aload_n 0, 1) := by decide +kernel
theorem d_M_work_123 : decode b_M_work 123 = .ok (.getfield 35, 3) := by decide +kernel
theorem d_M_work_126 : decode b_M_work 126 = .ok (.aload_n 0, 1) := by decide +kernel
theorem d_M_work_127 : decode b_M_work 127 = .ok (.getfield 95, 3) := by decide +kernel
theorem d_M_work_130 : decode b_M_work 130 = .ok (.sipush 999, 3) := by decide +kernel
theorem d_M_work_133 : decode b_M_work 133 = .ok (.iastore, 1) := by decide +kernel
theorem d_M_work_134 : decode b_M_work 134 = .ok (.aload_n 0, 1) := by decide +kernel
theorem d_M_work_135 : decode b_M_work 135 = .ok (.dup, 1) := by decide +kernel
theorem d_M_work_136 : decode b_M_work 136 = .ok (.getfield 95, 3) := by decide +kernel
theorem d_M_work_139 : decode b_M_work 139 = .ok (.iconst 1, 1) := by decide +kernel
theorem d_M_work_140 : decode b_M_work 140 = .ok (.iadd, 1) := by decide +kernel
theorem d_M_work_141 : decode b_M_work 141 = .ok (.putfield 95, 3) := by decide +kernel
theorem d_M_work_144 : decode b_M_work 144 = .ok (.iconst 0, 1) := by decide +kernel
theorem d_M_work_145 : decode b_M_work 145 = .ok (.istore 6, 2) := by decide +kernel
theorem d_M_work_147 : decode b_M_work 147 = .ok (.iload 6, 2) := by decide +kernel
theorem d_M_work_149 : decode b_M_work 149 = .ok (.aload_n 0, 1) := by decide +kernel
theorem d_M_work_150 : decode b_M_work 150 = .ok (.getfield 95, 3) := by decide +kernel
theorem d_M_work_153 : decode b_M_work 153 = .ok (.if_icmp .ge 45, 3) := by decide +kernel
theorem d_M_work_156 : decode b_M_work 156 = .ok (.aload_n 0, 1) := by decide +kernel
theorem d_M_work_157 : decode b_M_work 157 = .ok (.getfield 29, 3) := by decide +kernel
theorem d_M_work_160 : decode b_M_work 160 = .ok (.bipush 6, 2) := by decide +kernel
theorem d_M_work_162 : decode b_M_work 162 = .ok (.iload 6, 2) := by decide +kernel
theorem d_M_work_164 : decode b_M_work 164 = .ok (.imul, 1) := by decide +kernel
theorem d_M_work_165 : decode b_M_work 165 = .ok (.aload_n 0, 1) := by decide +kernel
theorem d_M_work_166 : decode b_M_work 166 = .ok (.getfield 95, 3) := by decide +kernel
theorem d_M_work_169 : decode b_M_work 169 = .ok (.iadd, 1) := by decide +kernel
theorem d_M_work_170 : decode b_M_work 170 = .ok (.iconst 1, 1) := by decide +kernel
theorem d_M_work_171 : decode b_M_work 171 = .ok (.isub, 1) := by decide +kernel
theorem d_M_work_172 : decode b_M_work 172 = .ok (.iconst (-1), 1) := by decide +kernel
theorem d_M_work_173 : decode b_M_work 173 = .ok (.iastore, 1) := by decide +kernel
theorem d_M_work_174 : decode b_M_work 174 = .ok (.aload_n 0, 1) := by decide +kernel
theorem d_M_work_175 : decode b_M_work 175 = .ok (.getfield 29, 3) := by decide +kernel
theorem d_M_work_178 : decode b_M_work 178 = .ok (.bipush 6, 2) := by decide +kernel
theorem d_M_work_180 : decode b_M_work 180 = .ok (.aload_n 0, 1) := by decide +kernel
theorem d_M_work_181 : decode b_M_work 181 = .ok (.getfield 95, 3) := by decide +kernel
theorem d_M_work_184 : decode b_M_work 184 = .ok (.iconst 1, 1) := by decide +kernel
theorem d_M_work_185 : decode b_M_work 185 = .ok (.isub, 1) := by decide +kernel
theorem d_M_work_186 : decode b_M_work 186 = .ok (.imul, 1) := by decide +kernel
theorem d_M_work_187 : decode b_M_work 187 = .ok (.iload 6, 2) := by decide +kernel
theorem d_M_work_189 : decode b_M_work 189 = .ok (.iadd, 1) := by decide +kernel
theorem d_M_work_190 : decode b_M_work 190 = .ok (.iconst (-1), 1) := by decide +kernel
theorem d_M_work_191 : decode b_M_work 191 = .ok (.iastore, 1) := by decide +kernel
theorem d_M_work_192 : decode b_M_work 192 = .ok (.iinc 6 1, 3) := by decide +kernel
theorem d_M_work_195 : decode b_M_work 195 = .ok (.goto (-48), 3) := by decide +kernel
theorem d_M_work_198 : decode b_M_work 198 = .ok (.aload_n 0, 1) := by decide +kernel
theorem d_M_work_199 : decode b_M_work 199 = .ok (.invokevirtual 110, 3) := by decide +kernel
theorem d_M_work_202 : decode b_M_work 202 = .ok (.aload_n 0, 1) := by decide +kernel
theorem d_M_work_203 : decode b_M_work 203 = .ok (.getfield 95, 3) := by decide +kernel
theorem d_M_work_206 : decode b_M_work 206 = .ok (.iconst 1, 1) := by decide +kernel
theorem d_M_work_207 : decode b_M_work 207 = .ok (.isub, 1) := by decide +kernel
theorem d_M_work_208 : decode b_M_work 208 = .ok (.ireturn, 1) := by decide +kernel
theorem d_M_after_0 : decode b_M_after 0 = .ok (.aload_n 0, 1) := by decide +kernel
theorem d_M_after_1 : decode b_M_after 1 = .ok (.iload_n 1, 1) := by decide +kernel
theorem d_M_after_2 : decode b_M_after 2 = .ok (.invokevirtual 113, 3) := by decide +kernel
theorem d_M_after_5 : decode b_M_after 5 = .ok (.ifCond .eq 26, 3) := by decide +kernel
theorem d_M_after_8 : decode b_M_after 8 = .ok (.aload_n 0, 1) := by decide +kernel
theorem d_M_after_9 : decode b_M_after 9 = .ok (.iload_n 2, 1) := by decide +kernel
theorem d_M_after_10 : decode b_M_after 10 = .ok (.invokevirtual 113, 3) := by decide +kernel
theorem d_M_after_13 : decode b_M_after 13 = .ok (.ifCond .eq 18, 3) := by decide +kernel
theorem d_M_after_16 : decode b_M_after 16 = .ok (.iload_n 1, 1) := by decide +kernel
theorem d_M_after_17 : decode b_M_after 17 = .ok (.iload_n 2, 1) := by decide +kernel
theorem d_M_after_18 : decode b_M_after 18 = .ok (.if_icmp .eq 13, 3) := by decide +kernel
theorem d_M_after_21 : decode b_M_after 21 = .ok (.iload_n 3, 1) := by decide +kernel
theorem d_M_after_22 : decode b_M_after 22 = .ok (.iconst 0, 1) := by decide +kernel
theorem d_M_after_23 : decode b_M_after 23 = .ok (.bipush 30, 2) := by decide +kernel
theorem d_M_after_25 : decode b_M_after 25 = .ok (.invokestatic 103, 3) := by decide +kernel
theorem d_M_after_28 : decode b_M_after 28 = .ok (.ifCond .ne 5, 3) := by decide +kernel
theorem d_M_after_31 : decode b_M_after 31 = .ok (.iconst 0, 1) := by decide +kernel
theorem d_M_after_32 : decode b_M_after 32 = .ok (.ireturn, 1) := by decide +kernel
theorem d_M_after_33 : decode b_M_after 33 = .ok (.aload_n 0, 1) := by decide +kernel
theorem d_M_after_34 : decode b_M_after 34 = .ok (.getfield 29, 3) := by decide +kernel
theorem d_M_after_37 : decode b_M_after 37 = .ok (.bipush 6, 2) := by decide +kernel
theorem d_M_after_39 : decode b_M_after 39 = .ok (.iload_n 1, 1) := by decide +kernel
theorem d_M_after_40 : decode b_M_after 40 = .ok (.imul, 1) := by decide +kernel
theorem d_M_after_41 : decode b_M_after 41 = .ok (.iload_n 2, 1) := by decide +kernel
theorem d_M_after_42 : decode b_M_after 42 = .ok (.iadd, 1) := by decide +kernel
theorem d_M_after_43 : decode b_M_after 43 = .ok (.iload_n 3, 1) := by decide +kernel
theorem d_M_after_44 : decode b_M_after 44 = .ok (.iastore, 1) := by decide +kernel
theorem d_M_after_45 : decode b_M_after 45 = .ok (.aload_n 0, 1) := by decide +kernel
theorem d_M_after_46 : decode b_M_after 46 = .ok (.invokevirtual 110, 3) := by decide +kernel
theorem d_M_after_49 : decode b_M_after 49 = .ok (.iconst 1, 1) := by decide +kernel
theorem d_M_after_50 : decode b_M_after 50 = .ok (.ireturn, 1) := by decide +kernel
theorem d_M_season_0 : decode b_M_season 0 = .ok (.aload_n 0, 1) := by decide +kernel
theorem d_M_season_1 : decode b_M_season 1 = .ok (.iload_n 1, 1) := by decide +kernel
theorem d_M_season_2 : decode b_M_season 2 = .ok (.invokevirtual 113, 3) := by decide +kernel
theorem d_M_season_5 : decode b_M_season 5 = .ok (.ifCond .eq 19, 3) := by decide +kernel
theorem d_M_season_8 : decode b_M_season 8 = .ok (.iload_n 2, 1) := by decide +kernel
theorem d_M_season_9 : decode b_M_season 9 = .ok (.ifCond .lt 15, 3) := by decide +kernel
theorem d_M_season_12 : decode b_M_season 12 = .ok (.iload_n 3, 1) := by decide +kernel
theorem d_M_season_13 : decode b_M_season 13 = .ok (.iload_n 2, 1) := by decide +kernel
theorem d_M_season_14 : decode b_M_season 14 = .ok (.if_icmp .lt 10, 3) := by decide +kernel
theorem d_M_season_17 : decode b_M_season 17 = .ok (.iload_n 3, 1) := by decide +kernel
theorem d_M_season_18 : decode b_M_season 18 = .ok (.sipush 999, 3) := by decide +kernel
theorem d_M_season_21 : decode b_M_season 21 = .ok (.if_icmp .le 5, 3) := by decide +kernel
theorem d_M_season_24 : decode b_M_season 24 = .ok (.iconst 0, 1) := by decide +kernel
theorem d_M_season_25 : decode b_M_season 25 = .ok (.ireturn, 1) := by decide +kernel
theorem d_M_season_26 : decode b_M_season 26 = .ok (.aload_n 0, 1) := by decide +kernel
theorem d_M_season_27 : decode b_M_season 27 = .ok (.getfield 32, 3) := by decide +kernel
theorem d_M_season_30 : decode b_M_season 30 = .ok (.iload_n 1, 1) := by decide +kernel
theorem d_M_season_31 : decode b_M_season 31 = .ok (.iload_n 2, 1) := by decide +kernel
theorem d_M_season_32 : decode b_M_season 32 = .ok (.iastore, 1) := by decide +kernel
theorem d_M_season_33 : decode b_M_season 33 = .ok (.aload_n 0, 1) := by decide +kernel
theorem d_M_season_34 : decode b_M_season 34 = .ok (.getfield 35, 3) := by decide +kernel
theorem d_M_season_37 : decode b_M_season 37 = .ok (.iload_n 1, 1) := by decide +kernel
theorem d_M_season_38 : decode b_M_season 38 = .ok (.iload_n 3, 1) := by decide +kernel
theorem d_M_season_39 : decode b_M_season 39 = .ok (.iastore, 1) := by decide +kernel
theorem d_M_season_40 : decode b_M_season 40 = .ok (.aload_n 0, 1) := by decide +kernel
theorem d_M_season_41 : decode b_M_season 41 = .ok (.invokevirtual 110, 3) := by decide +kernel
theorem d_M_season_44 : decode b_M_season 44 = .ok (.iconst 1, 1) := by decide +kernel
theorem d_M_season_45 : decode b_M_season 45 = .ok (.ireturn, 1) := by decide +kernel
theorem d_M_bar_0 : decode b_M_bar 0 = .ok (.aload_n 0, 1) := by decide +kernel
theorem d_M_bar_1 : decode b_M_bar 1 = .ok (.iload_n 1, 1) := by decide +kernel
theorem d_M_bar_2 : decode b_M_bar 2 = .ok (.invokevirtual 113, 3) := by decide +kernel
theorem d_M_bar_5 : decode b_M_bar 5 = .ok (.ifCond .eq 42, 3) := by decide +kernel
theorem d_M_bar_8 : decode b_M_bar 8 = .ok (.iload_n 2, 1) := by decide +kernel
theorem d_M_bar_9 : decode b_M_bar 9 = .ok (.aload_n 0, 1) := by decide +kernel
theorem d_M_bar_10 : decode b_M_bar 10 = .ok (.getfield 16, 3) := by decide +kernel
theorem d_M_bar_13 : decode b_M_bar 13 = .ok (.iload_n 1, 1) := by decide +kernel
theorem d_M_bar_14 : decode b_M_bar 14 = .ok (.iaload, 1) := by decide +kernel
theorem d_M_bar_15 : decode b_M_bar 15 = .ok (.aload_n 0, 1) := by decide +kernel
theorem d_M_bar_16 : decode b_M_bar 16 = .ok (.getfield 19, 3) := by decide +kernel
theorem d_M_bar_19 : decode b_M_bar 19 = .ok (.iload_n 1, 1) := by decide +kernel
theorem d_M_bar_20 : decode b_M_bar 20 = .ok (.iaload, 1) := by decide +kernel
theorem d_M_bar_21 : decode b_M_bar 21 = .ok (.invokestatic 103, 3) := by decide +kernel
theorem d_M_bar_24 : decode b_M_bar 24 = .ok (.ifCond .eq 23, 3) := by decide +kernel
theorem d_M_bar_27 : decode b_M_bar 27 = .ok (.iload_n 3, 1) := by decide +kernel
theorem d_M_bar_28 : decode b_M_bar 28 = .ok (.iconst 0, 1) := by decide +kernel
theorem d_M_bar_29 : decode b_M_bar 29 = .ok (.sipush 999, 3) := by decide +kernel
theorem d_M_bar_32 : decode b_M_bar 32 = .ok (.invokestatic 103, 3) := by decide +kernel
theorem d_M_bar_35 : decode b_M_bar 35 = .ok (.ifCond .eq 12, 3) := by decide +kernel
theorem d_M_bar_38 : decode b_M_bar 38 = .ok (.aload_n 0, 1) := by decide +kernel
theorem d_M_bar_39 : decode b_M_bar 39 = .ok (.getfield 117, 3) := by decide +kernel
theorem d_M_bar_42 : decode b_M_bar 42 = .ok (.bipush 8, 2) := by decide +kernel
theorem d_M_bar_44 : decode b_M_bar 44 = .ok (.if_icmp .ne 5, 3) := by decide +kernel
theorem d_M_bar_47 : decode b_M_bar 47 = .ok (.iconst 0, 1) := by decide +kernel
theorem d_M_bar_48 : decode b_M_bar 48 = .ok (.ireturn, 1) := by decide +kernel
theorem d_M_bar_49 : decode b_M_bar 49 = .ok (.aload_n 0, 1) := by decide +kernel
theorem d_M_bar_50 : decode b_M_bar 50 = .ok (.getfield 38, 3) := by decide +kernel
theorem d_M_bar_53 : decode b_M_bar 53 = .ok (.aload_n 0, 1) := by decide +kernel
theorem d_M_bar_54 : decode b_M_bar 54 = .ok (.getfield 117, 3) := by decide +kernel
theorem d_M_bar_57 : decode b_M_bar 57 = .ok (.iload_n 1, 1) := by decide +kernel
theorem d_M_bar_58 : decode b_M_bar 58 = .ok (.iastore, 1) := by decide +kernel
theorem d_M_bar_59 : decode b_M_bar 59 = .ok (.aload_n 0, 1) := by decide +kernel
theorem d_M_bar_60 : decode b_M_bar 60 = .ok (.getfield 41, 3) := by decide +kernel
theorem d_M_bar_63 : decode b_M_bar 63 = .ok (.aload_n 0, 1) := by decide +kernel
theorem d_M_bar_64 : decode b_M_bar 64 = .ok (.getfield 117, 3) := by decide +kernel
theorem d_M_bar_67 : decode b_M_bar 67 = .ok (.iload_n 2, 1) := by decide +kernel
theorem d_M_bar_68 : decode b_M_bar 68 = .ok (.iastore, 1) := by decide +kernel
theorem d_M_bar_69 : decode b_M_bar 69 = .ok (.aload_n 0, 1) := by decide +kernel
theorem d_M_bar_70 : decode b_M_bar 70 = .ok (.getfield 44, 3) := by decide +kernel
theorem d_M_bar_73 : decode b_M_bar 73 = .ok (.aload_n 0, 1) := by decide +kernel
theorem d_M_bar_74 : decode b_M_bar 74 = .ok (.getfield 117, 3) := by decide +kernel
theorem d_M_bar_77 : decode b_M_bar 77 = .ok (.iload_n 3, 1) := by decide +kernel
theorem d_M_bar_78 : decode b_M_bar 78 = .ok (.iastore, 1) := by decide +kernel
theorem d_M_bar_79 : decode b_M_bar 79 = .ok (.aload_n 0, 1) := by decide +kernel
theorem d_M_bar_80 : decode b_M_bar 80 = .ok (.dup, 1) := by decide +kernel
theorem d_M_bar_81 : decode b_M_bar 81 = .ok (.getfield 117, 3) := by decide +kernel
theorem d_M_bar_84 : decode b_M_bar 84 = .ok (.iconst 1, 1) := by decide +kernel
theorem d_M_bar_85 : decode b_M_bar 85 = .ok (.iadd, 1) := by decide +kernel
theorem d_M_bar_86 : decode b_M_bar 86 = .ok (.putfield 117, 3) := by decide +kernel
theorem d_M_bar_89 : decode b_M_bar 89 = .ok (.aload_n 0, 1) := by decide +kernel
theorem d_M_bar_90 : decode b_M_bar 90 = .ok (.invokevirtual 110, 3) := by decide +kernel
theorem d_M_bar_93 : decode b_M_bar 93 = .ok (.iconst 1, 1) := by decide +kernel
theorem d_M_bar_94 : decode b_M_bar 94 = .ok (.ireturn, 1) := by decide +kernel
theorem d_M_rest_0 : decode b_M_rest 0 = .ok (.iload_n 1, 1) := by decide +kernel
theorem d_M_rest_1 : decode b_M_rest 1 = .ok (.iconst 0, 1) := by decide +kernel
theorem d_M_rest_2 : decode b_M_rest 2 = .ok (.sipush 199, 3) := by decide +kernel
theorem d_M_rest_5 : decode b_M_rest 5 = .ok (.invokestatic 103, 3) := by decide +kernel
theorem d_M_rest_8 : decode b_M_rest 8 = .ok (.ifCond .eq 12, 3) := by decide +kernel
theorem d_M_rest_11 : decode b_M_rest 11 = .ok (.aload_n 0, 1) := by decide +kernel
theorem d_M_rest_12 : decode b_M_rest 12 = .ok (.getfield 47, 3) := by decide +kernel
theorem d_M_rest_15 : decode b_M_rest 15 = .ok (.iload_n 1, 1) := by decide +kernel
theorem d_M_rest_16 : decode b_M_rest 16 = .ok (.baload, 1) := by decide +kernel
theorem d_M_rest_17 : decode b_M_rest 17 = .ok (.ifCond .eq 5, 3) := by decide +kernel
theorem d_M_rest_20 : decode b_M_rest 20 = .ok (.iconst 0, 1) := by decide +kernel
theorem d_M_rest_21 : decode b_M_rest 21 = .ok (.ireturn, 1) := by decide +kernel
theorem d_M_rest_22 : decode b_M_rest 22 = .ok (.aload_n 0, 1) := by decide +kernel
theorem d_M_rest_23 : decode b_M_rest 23 = .ok (.getfield 47, 3) := by decide +kernel
theorem d_M_rest_26 : decode b_M_rest 26 = .ok (.iload_n 1, 1) := by decide +kernel
theorem d_M_rest_27 : decode b_M_rest 27 = .ok (.iconst 1, 1) := by decide +kernel
theorem d_M_rest_28 : decode b_M_rest 28 = .ok (.bastore, 1) := by decide +kernel
theorem d_M_rest_29 : decode b_M_rest 29 = .ok (.aload_n 0, 1) := by decide +kernel
theorem d_M_rest_30 : decode b_M_rest 30 = .ok (.dup, 1) := by decide +kernel
theorem d_M_rest_31 : decode b_M_rest 31 = .ok (.getfield 120, 3) := by decide +kernel
theorem d_M_rest_34 : decode b_M_rest 34 = .ok (.iconst 1, 1) := by decide +kernel
theorem d_M_rest_35 : decode b_M_rest 35 = .ok (.iadd, 1) := by decide +kernel
theorem d_M_rest_36 : decode b_M_rest 36 = .ok (.putfield 120, 3) := by decide +kernel
theorem d_M_rest_39 : decode b_M_rest 39 = .ok (.aload_n 0, 1) := by decide +kernel
theorem d_M_rest_40 : decode b_M_rest 40 = .ok (.invokevirtual 110, 3) := by decide +kernel
theorem d_M_rest_43 : decode b_M_rest 43 = .ok (.iconst 1, 1) := by decide +kernel
theorem d_M_rest_44 : decode b_M_rest 44 = .ok (.ireturn, 1) := by decide +kernel
theorem d_M_most_0 : decode b_M_most 0 = .ok (.iload_n 1, 1) := by decide +kernel
theorem d_M_most_1 : decode b_M_most 1 = .ok (.iconst 0, 1) := by decide +kernel
theorem d_M_most_2 : decode b_M_most 2 = .ok (.iconst 3, 1) := by decide +kernel
theorem d_M_most_3 : decode b_M_most 3 = .ok (.invokestatic 103, 3) := by decide +kernel
theorem d_M_most_6 : decode b_M_most 6 = .ok (.ifCond .eq 13, 3) := by decide +kernel
theorem d_M_most_9 : decode b_M_most 9 = .ok (.iload_n 2, 1) := by decide +kernel
theorem d_M_most_10 : decode b_M_most 10 = .ok (.iconst 0, 1) := by decide +kernel
theorem d_M_most_11 : decode b_M_most 11 = .ok (.bipush 6, 2) := by decide +kernel
theorem d_M_most_13 : decode b_M_most 13 = .ok (.invokestatic 103, 3) := by decide +kernel
theorem d_M_most_16 : decode b_M_most 16 = .ok (.ifCond .ne 5, 3) := by decide +kernel
theorem d_M_most_19 : decode b_M_most 19 = .ok (.iconst (-1), 1) := by decide +kernel
theorem d_M_most_20 : decode b_M_most 20 = .ok (.ireturn, 1) := by decide +kernel
theorem d_M_most_21 : decode b_M_most 21 = .ok (.aload_n 0, 1) := by decide +kernel
theorem d_M_most_22 : decode b_M_most 22 = .ok (.getfield 53, 3) := by decide +kernel
theorem d_M_most_25 : decode b_M_most 25 = .ok (.iload_n 1, 1) := by decide +kernel
theorem d_M_most_26 : decode b_M_most 26 = .ok (.iaload, 1) := by decide +kernel
theorem d_M_most_27 : decode b_M_most 27 = .ok (.istore_n 3, 1) := by decide +kernel
theorem d_M_most_28 : decode b_M_most 28 = .ok (.aload_n 0, 1) := by decide +kernel
theorem d_M_most_29 : decode b_M_most 29 = .ok (.getfield 53, 3) := by decide +kernel
theorem d_M_most_32 : decode b_M_most 32 = .ok (.iload_n 1, 1) := by decide +kernel
theorem d_M_most_33 : decode b_M_most 33 = .ok (.iload_n 2, 1) := by decide +kernel
theorem d_M_most_34 : decode b_M_most 34 = .ok (.iastore, 1) := by decide +kernel
theorem d_M_most_35 : decode b_M_most 35 = .ok (.aload_n 0, 1) := by decide +kernel
theorem d_M_most_36 : decode b_M_most 36 = .ok (.invokevirtual 110, 3) := by decide +kernel
theorem d_M_most_39 : decode b_M_most 39 = .ok (.iload_n 3, 1) := by decide +kernel
theorem d_M_most_40 : decode b_M_most 40 = .ok (.ireturn, 1) := by decide +kernel
theorem d_M_learned_0 : decode b_M_learned 0 = .ok (.aload_n 0, 1) := by decide +kernel
theorem d_M_learned_1 : decode b_M_learned 1 = .ok (.iload_n 1, 1) := by decide +kernel
theorem d_M_learned_2 : decode b_M_learned 2 = .ok (.invokevirtual 113, 3) := by decide +kernel
theorem d_M_learned_5 : decode b_M_learned 5 = .ok (.ifCond .eq 25, 3) := by decide +kernel
theorem d_M_learned_8 : decode b_M_learned 8 = .ok (.iload_n 2, 1) := by decide +kernel
theorem d_M_learned_9 : decode b_M_learned 9 = .ok (.iconst 1, 1) := by decide +kernel
theorem d_M_learned_10 : decode b_M_learned 10 = .ok (.sipush 10000, 3) := by decide +kernel
theorem d_M_learned_13 : decode b_M_learned 13 = .ok (.invokestatic 103, 3) := by decide +kernel
theorem d_M_learned_16 : decode b_M_learned 16 = .ok (.ifCond .eq 14, 3) := by decide +kernel
theorem d_M_learned_19 : decode b_M_learned 19 = .ok (.iload_n 3, 1) := by decide +kernel
theorem d_M_learned_20 : decode b_M_learned 20 = .ok (.iconst 1, 1) := by decide +kernel
theorem d_M_learned_21 : decode b_M_learned 21 = .ok (.sipush 1000, 3) := by decide +kernel
theorem d_M_learned_24 : decode b_M_learned 24 = .ok (.invokestatic 103, 3) := by decide +kernel
theorem d_M_learned_27 : decode b_M_learned 27 = .ok (.ifCond .ne 5, 3) := by decide +kernel
theorem d_M_learned_30 : decode b_M_learned 30 = .ok (.iconst (-1), 1) := by decide +kernel
theorem d_M_learned_31 : decode b_M_learned 31 = .ok (.ireturn, 1) := by decide +kernel
theorem d_M_learned_32 : decode b_M_learned 32 = .ok (.iload_n 2, 1) := by decide +kernel
theorem d_M_learned_33 : decode b_M_learned 33 = .ok (.iload_n 3, 1) := by decide +kernel
theorem d_M_learned_34 : decode b_M_learned 34 = .ok (.idiv, 1) := by decide +kernel
theorem d_M_learned_35 : decode b_M_learned 35 = .ok (.istore 4, 2) := by decide +kernel
theorem d_M_learned_37 : decode b_M_learned 37 = .ok (.aload_n 0, 1) := by decide +kernel
theorem d_M_learned_38 : decode b_M_learned 38 = .ok (.getfield 22, 3) := by decide +kernel
theorem d_M_learned_41 : decode b_M_learned 41 = .ok (.iload_n 1, 1) := by decide +kernel
theorem d_M_learned_42 : decode b_M_learned 42 = .ok (.iload 4, 2) := by decide +kernel
theorem d_M_learned_44 : decode b_M_learned 44 = .ok (.iconst 1, 1) := by decide +kernel
theorem d_M_learned_45 : decode b_M_learned 45 = .ok (.if_icmp .ge 7, 3) := by decide +kernel
theorem d_M_learned_48 : decode b_M_learned 48 = .ok (.iconst 1, 1) := by decide +kernel
theorem d_M_learned_49 : decode b_M_learned 49 = .ok (.goto 17, 3) := by decide +kernel
theorem d_M_learned_52 : decode b_M_learned 52 = .ok (.iload 4, 2) := by decide +kernel
theorem d_M_learned_54 : decode b_M_learned 54 = .ok (.bipush 50, 2) := by decide +kernel
theorem d_M_learned_56 : decode b_M_learned 56 = .ok (.if_icmp .le 8, 3) := by decide +kernel
theorem d_M_learned_59 : decode b_M_learned 59 = .ok (.bipush 50, 2) := by decide +kernel
theorem d_M_learned_61 : decode b_M_learned 61 = .ok (.goto 5, 3) := by decide +kernel
theorem d_M_learned_64 : decode b_M_learned 64 = .ok (.iload 4, 2) := by decide +kernel
theorem d_M_learned_66 : decode b_M_learned 66 = .ok (.iastore, 1) := by decide +kernel
theorem d_M_learned_67 : decode b_M_learned 67 = .ok (.aload_n 0, 1) := by decide +kernel
theorem d_M_learned_68 : decode b_M_learned 68 = .ok (.invokevirtual 110, 3) := by decide +kernel
theorem d_M_learned_71 : decode b_M_learned 71 = .ok (.aload_n 0, 1) := by decide +kernel
theorem d_M_learned_72 : decode b_M_learned 72 = .ok (.getfield 22, 3) := by decide +kernel
theorem d_M_learned_75 : decode b_M_learned 75 = .ok (.iload_n 1, 1) := by decide +kernel
theorem d_M_learned_76 : decode b_M_learned 76 = .ok (.iaload, 1) := by decide +kernel
theorem d_M_learned_77 : decode b_M_learned 77 = .ok (.ireturn, 1) := by decide +kernel
theorem d_M_isRest_0 : decode b_M_isRest 0 = .ok (.iload_n 1, 1) := by decide +kernel
theorem d_M_isRest_1 : decode b_M_isRest 1 = .ok (.ifCond .lt 23, 3) := by decide +kernel
theorem d_M_isRest_4 : decode b_M_isRest 4 = .ok (.iload_n 1, 1) := by decide +kernel
theorem d_M_isRest_5 : decode b_M_isRest 5 = .ok (.sipush 200, 3) := by decide +kernel
theorem d_M_isRest_8 : decode b_M_isRest 8 = .ok (.if_icmp .ge 16, 3) := by decide +kernel
theorem d_M_isRest_11 : decode b_M_isRest 11 = .ok (.aload_n 0, 1) := by decide +kernel
theorem d_M_isRest_12 : decode b_M_isRest 12 = .ok (.getfield 47, 3) := by decide +kernel
theorem d_M_isRest_15 : decode b_M_isRest 15 = .ok (.iload_n 1, 1) := by decide +kernel
theorem d_M_isRest_16 : decode b_M_isRest 16 = .ok (.baload, 1) := by decide +kernel
theorem d_M_isRest_17 : decode b_M_isRest 17 = .ok (.ifCond .eq 7, 3) := by decide +kernel
theorem d_M_isRest_20 : decode b_M_isRest 20 = .ok (.iconst 1, 1) := by decide +kernel
theorem d_M_isRest_21 : decode b_M_isRest 21 = .ok (.goto 4, 3) := by decide +kernel
theorem d_M_isRest_24 : decode b_M_isRest 24 = .ok (.iconst 0, 1) := by decide +kernel
theorem d_M_isRest_25 : decode b_M_isRest 25 = .ok (.ireturn, 1) := by decide +kernel
theorem d_M_nextDay_0 : decode b_M_nextDay 0 = .ok (.iload_n 1, 1) := by decide +kernel
theorem d_M_nextDay_1 : decode b_M_nextDay 1 = .ok (.iconst 1, 1) := by decide +kernel
theorem d_M_nextDay_2 : decode b_M_nextDay 2 = .ok (.iadd, 1) := by decide +kernel
theorem d_M_nextDay_3 : decode b_M_nextDay 3 = .ok (.istore_n 2, 1) := by decide +kernel
theorem d_M_nextDay_4 : decode b_M_nextDay 4 = .ok (.aload_n 0, 1) := by decide +kernel
theorem d_M_nextDay_5 : decode b_M_nextDay 5 = .ok (.iload_n 2, 1) := by decide +kernel
theorem d_M_nextDay_6 : decode b_M_nextDay 6 = .ok (.invokevirtual 123, 3) := by decide +kernel
theorem d_M_nextDay_9 : decode b_M_nextDay 9 = .ok (.ifCond .eq 9, 3) := by decide +kernel
theorem d_M_nextDay_12 : decode b_M_nextDay 12 = .ok (.iinc 2 1, 3) := by decide +kernel
theorem d_M_nextDay_15 : decode b_M_nextDay 15 = .ok (.goto (-11), 3) := by decide +kernel
theorem d_M_nextDay_18 : decode b_M_nextDay 18 = .ok (.iload_n 2, 1) := by decide +kernel
theorem d_M_nextDay_19 : decode b_M_nextDay 19 = .ok (.ireturn, 1) := by decide +kernel
theorem d_M_lay_0 : decode b_M_lay 0 = .ok (.aload_n 0, 1) := by decide +kernel
theorem d_M_lay_1 : decode b_M_lay 1 = .ok (.getfield 22, 3) := by decide +kernel
theorem d_M_lay_4 : decode b_M_lay 4 = .ok (.iload_n 2, 1) := by decide +kernel
theorem d_M_lay_5 : decode b_M_lay 5 = .ok (.iaload, 1) := by decide +kernel
theorem d_M_lay_6 : decode b_M_lay 6 = .ok (.istore 5, 2) := by decide +kernel
theorem d_M_lay_8 : decode b_M_lay 8 = .ok (.aload_n 0, 1) := by decide +kernel
theorem d_M_lay_9 : decode b_M_lay 9 = .ok (.getfield 19, 3) := by decide +kernel
theorem d_M_lay_12 : decode b_M_lay 12 = .ok (.iload_n 2, 1) := by decide +kernel
theorem d_M_lay_13 : decode b_M_lay 13 = .ok (.iaload, 1) := by decide +kernel
theorem d_M_lay_14 : decode b_M_lay 14 = .ok (.aload_n 0, 1) := by decide +kernel
theorem d_M_lay_15 : decode b_M_lay 15 = .ok (.getfield 16, 3) := by decide +kernel
theorem d_M_lay_18 : decode b_M_lay 18 = .ok (.iload_n 2, 1) := by decide +kernel
theorem d_M_lay_19 : decode b_M_lay 19 = .ok (.iaload, 1) := by decide +kernel
theorem d_M_lay_20 : decode b_M_lay 20 = .ok (.isub, 1) := by decide +kernel
theorem d_M_lay_21 : decode b_M_lay 21 = .ok (.istore 6, 2) := by decide +kernel
theorem d_M_lay_23 : decode b_M_lay 23 = .ok (.iload_n 3, 1) := by decide +kernel
theorem d_M_lay_24 : decode b_M_lay 24 = .ok (.istore 7, 2) := by decide +kernel
theorem d_M_lay_26 : decode b_M_lay 26 = .ok (.aload_n 0, 1) := by decide +kernel
theorem d_M_lay_27 : decode b_M_lay 27 = .ok (.getfield 71, 3) := by decide +kernel
theorem d_M_lay_30 : decode b_M_lay 30 = .ok (.iload_n 1, 1) := by decide +kernel
theorem d_M_lay_31 : decode b_M_lay 31 = .ok (.iload_n 3, 1) := by decide +kernel
theorem d_M_lay_32 : decode b_M_lay 32 = .ok (.iastore, 1) := by decide +kernel
theorem d_M_lay_33 : decode b_M_lay 33 = .ok (.aload_n 0, 1) := by decide +kernel
theorem d_M_lay_34 : decode b_M_lay 34 = .ok (.getfield 74, 3) := by decide +kernel
theorem d_M_lay_37 : decode b_M_lay 37 = .ok (.iload_n 1, 1) := by decide +kernel
theorem d_M_lay_38 : decode b_M_lay 38 = .ok (.iload 4, 2) := by decide +kernel
theorem d_M_lay_40 : decode b_M_lay 40 = .ok (.iastore, 1) := by decide +kernel
theorem d_M_lay_41 : decode b_M_lay 41 = .ok (.iconst 0, 1) := by decide +kernel
theorem d_M_lay_42 : decode b_M_lay 42 = .ok (.istore 8, 2) := by decide +kernel
theorem d_M_lay_44 : decode b_M_lay 44 = .ok (.iload 8, 2) := by decide +kernel
theorem d_M_lay_46 : decode b_M_lay 46 = .ok (.iload 6, 2) := by decide +kernel
theorem d_M_lay_48 : decode b_M_lay 48 = .ok (.if_icmp .gt 147, 3) := by decide +kernel
theorem d_M_lay_51 : decode b_M_lay 51 = .ok (.sipush 201, 3) := by decide +kernel
theorem d_M_lay_54 : decode b_M_lay 54 = .ok (.iload_n 1, 1) := by decide +kernel
theorem d_M_lay_55 : decode b_M_lay 55 = .ok (.imul, 1) := by decide +kernel
theorem d_M_lay_56 : decode b_M_lay 56 = .ok (.iload 4, 2) := by decide +kernel
theorem d_M_lay_58 : decode b_M_lay 58 = .ok (.ifCond .ne 15, 3) := by decide +kernel
theorem d_M_lay_61 : decode b_M_lay 61 = .ok (.aload_n 0, 1) := by decide +kernel
theorem d_M_lay_62 : decode b_M_lay 62 = .ok (.getfield 16, 3) := by decide +kernel
theorem d_M_lay_65 : decode b_M_lay 65 = .ok (.iload_n 2, 1) := by decide +kernel
theorem d_M_lay_66 : decode b_M_lay 66 = .ok (.iaload, 1) := by decide +kernel
theorem d_M_lay_67 : decode b_M_lay 67 = .ok (.iload 8, 2) := by decide +kernel
theorem d_M_lay_69 : decode b_M_lay 69 = .ok (.iadd, 1) := by decide +kernel
theorem d_M_lay_70 : decode b_M_lay 70 = .ok (.goto 12, 3) := by decide +kernel
theorem d_M_lay_73 : decode b_M_lay 73 = .ok (.aload_n 0, 1) := by decide +kernel
theorem d_M_lay_74 : decode b_M_lay 74 = .ok (.getfield 19, 3) := by decide +kernel
theorem d_M_lay_77 : decode b_M_lay 77 = .ok (.iload_n 2, 1) := by decide +kernel
theorem d_M_lay_78 : decode b_M_lay 78 = .ok (.iaload, 1) := by decide +kernel
theorem d_M_lay_79 : decode b_M_lay 79 = .ok (.iload 8, 2) := by decide +kernel
theorem d_M_lay_81 : decode b_M_lay 81 = .ok (.isub, 1) := by decide +kernel
theorem d_M_lay_82 : decode b_M_lay 82 = .ok (.iadd, 1) := by decide +kernel
theorem d_M_lay_83 : decode b_M_lay 83 = .ok (.istore 9, 2) := by decide +kernel
theorem d_M_lay_85 : decode b_M_lay 85 = .ok (.iload 8, 2) := by decide +kernel
theorem d_M_lay_87 : decode b_M_lay 87 = .ok (.ifCond .ne 28, 3) := by decide +kernel
theorem d_M_lay_90 : decode b_M_lay 90 = .ok (.aload_n 0, 1) := by decide +kernel
theorem d_M_lay_91 : decode b_M_lay 91 = .ok (.getfield 80, 3) := by decide +kernel
theorem d_M_lay_94 : decode b_M_lay 94 = .ok (.iload 9, 2) := by decide +kernel
theorem d_M_lay_96 : decode b_M_lay 96 = .ok (.iload_n 3, 1) := by decide +kernel
theorem d_M_lay_97 : decode b_M_lay 97 = .ok (.iload 5, 2) := by decide +kernel
theorem d_M_lay_99 : decode b_M_lay 99 = .ok (.imul, 1) := by decide +kernel
theorem d_M_lay_100 : decode b_M_lay 100 = .ok (.iastore, 1) := by decide +kernel
theorem d_M_lay_101 : decode b_M_lay 101 = .ok (.aload_n 0, 1) := by decide +kernel
theorem d_M_lay_102 : decode b_M_lay 102 = .ok (.getfield 83, 3) := by decide +kernel
theorem d_M_lay_105 : decode b_M_lay 105 = .ok (.iload 9, 2) := by decide +kernel
theorem d_M_lay_107 : decode b_M_lay 107 = .ok (.iload_n 3, 1) := by decide +kernel
theorem d_M_lay_108 : decode b_M_lay 108 = .ok (.iload 5, 2) := by decide +kernel
theorem d_M_lay_110 : decode b_M_lay 110 = .ok (.imul, 1) := by decide +kernel
theorem d_M_lay_111 : decode b_M_lay 111 = .ok (.iastore, 1) := by decide +kernel
theorem d_M_lay_112 : decode b_M_lay 112 = .ok (.goto 77, 3) := by decide +kernel
theorem d_M_lay_115 : decode b_M_lay 115 = .ok (.iload 8, 2) := by decide +kernel
theorem d_M_lay_117 : decode b_M_lay 117 = .ok (.iconst 1, 1) := by decide +kernel
theorem d_M_lay_118 : decode b_M_lay 118 = .ok (.isub, 1) := by decide +kernel
theorem d_M_lay_119 : decode b_M_lay 119 = .ok (.iload 5, 2) := by decide +kernel
theorem d_M_lay_121 : decode b_M_lay 121 = .ok (.irem, 1) := by decide +kernel
theorem d_M_lay_122 : decode b_M_lay 122 = .ok (.iconst 1, 1) := by decide +kernel
theorem d_M_lay_123 : decode b_M_lay 123 = .ok (.iadd, 1) := by decide +kernel
theorem d_M_lay_124 : decode b_M_lay 124 = .ok (.istore 10, 2) := by decide +kernel
theorem d_M_lay_126 : decode b_M_lay 126 = .ok (.aload_n 0, 1) := by decide +kernel
theorem d_M_lay_127 : decode b_M_lay 127 = .ok (.getfield 80, 3) := by decide +kernel
theorem d_M_lay_130 : decode b_M_lay 130 = .ok (.iload 9, 2) := by decide +kernel
theorem d_M_lay_132 : decode b_M_lay 132 = .ok (.iload 7, 2) := by decide +kernel
theorem d_M_lay_134 : decode b_M_lay 134 = .ok (.iload 5, 2) := by decide +kernel
theorem d_M_lay_136 : decode b_M_lay 136 = .ok (.imul, 1) := by decide +kernel
theorem d_M_lay_137 : decode b_M_lay 137 = .ok (.iload 10, 2) := by decide +kernel
theorem d_M_lay_139 : decode b_M_lay 139 = .ok (.iadd, 1) := by decide +kernel
theorem d_M_lay_140 : decode b_M_lay 140 = .ok (.iastore, 1) := by decide +kernel
theorem d_M_lay_141 : decode b_M_lay 141 = .ok (.aload_n 0, 1) := by decide +kernel
theorem d_M_lay_142 : decode b_M_lay 142 = .ok (.getfield 83, 3) := by decide +kernel
theorem d_M_lay_145 : decode b_M_lay 145 = .ok (.iload 9, 2) := by decide +kernel
theorem d_M_lay_147 : decode b_M_lay 147 = .ok (.aload_n 0, 1) := by decide +kernel
theorem d_M_lay_148 : decode b_M_lay 148 = .ok (.getfield 80, 3) := by decide +kernel
theorem d_M_lay_151 : decode b_M_lay 151 = .ok (.iload 9, 2) := by decide +kernel
theorem d_M_lay_153 : decode b_M_lay 153 = .ok (.iaload, 1) := by decide +kernel
theorem d_M_lay_154 : decode b_M_lay 154 = .ok (.iastore, 1) := by decide +kernel
theorem d_M_lay_155 : decode b_M_lay 155 = .ok (.iload 10, 2) := by decide +kernel
theorem d_M_lay_157 : decode b_M_lay 157 = .ok (.iload 5, 2) := by decide +kernel
theorem d_M_lay_159 : decode b_M_lay 159 = .ok (.if_icmp .ne 30, 3) := by decide +kernel
theorem d_M_lay_162 : decode b_M_lay 162 = .ok (.iload 8, 2) := by decide +kernel
theorem d_M_lay_164 : decode b_M_lay 164 = .ok (.iload 6, 2) := by decide +kernel
theorem d_M_lay_166 : decode b_M_lay 166 = .ok (.if_icmp .ge 23, 3) := by decide +kernel
theorem d_M_lay_169 : decode b_M_lay 169 = .ok (.aload_n 0, 1) := by decide +kernel
theorem d_M_lay_170 : decode b_M_lay 170 = .ok (.iload 7, 2) := by decide +kernel
theorem d_M_lay_172 : decode b_M_lay 172 = .ok (.invokevirtual 126, 3) := by decide +kernel
theorem d_M_lay_175 : decode b_M_lay 175 = .ok (.istore 7, 2) := by decide +kernel
theorem d_M_lay_177 : decode b_M_lay 177 = .ok (.aload_n 0, 1) := by decide +kernel
theorem d_M_lay_178 : decode b_M_lay 178 = .ok (.getfield 83, 3) := by decide +kernel
theorem d_M_lay_181 : decode b_M_lay 181 = .ok (.iload 9, 2) := by decide +kernel
theorem d_M_lay_183 : decode b_M_lay 183 = .ok (.iload 7, 2) := by decide +kernel
theorem d_M_lay_185 : decode b_M_lay 185 = .ok (.iload 5, 2) := by decide +kernel
theorem d_M_lay_187 : decode b_M_lay 187 = .ok (.imul, 1) := by decide +kernel
theorem d_M_lay_188 : decode b_M_lay 188 = .ok (.iastore, 1) := by decide +kernel
theorem d_M_lay_189 : decode b_M_lay 189 = .ok (.iinc 8 1, 3) := by decide +kernel
theorem d_M_lay_192 : decode b_M_lay 192 = .ok (.goto (-148), 3) := by decide +kernel
theorem d_M_lay_195 : decode b_M_lay 195 = .ok (.aload_n 0, 1) := by decide +kernel
theorem d_M_lay_196 : decode b_M_lay 196 = .ok (.getfield 77, 3) := by decide +kernel
theorem d_M_lay_199 : decode b_M_lay 199 = .ok (.iload_n 1, 1) := by decide +kernel
theorem d_M_lay_200 : decode b_M_lay 200 = .ok (.iload 7, 2) := by decide +kernel
theorem d_M_lay_202 : decode b_M_lay 202 = .ok (.iconst 1, 1) := by decide +kernel
theorem d_M_lay_203 : decode b_M_lay 203 = .ok (.iadd, 1) := by decide +kernel
theorem d_M_lay_204 : decode b_M_lay 204 = .ok (.iastore, 1) := by decide +kernel
theorem d_M_lay_205 : decode b_M_lay 205 = .ok (.return_, 1) := by decide +kernel
theorem d_M_keepsOwn_0 : decode b_M_keepsOwn 0 = .ok (.aload_n 0, 1) := by decide +kernel
theorem d_M_keepsOwn_1 : decode b_M_keepsOwn 1 = .ok (.getfield 71, 3) := by decide +kernel
theorem d_M_keepsOwn_4 : decode b_M_keepsOwn 4 = .ok (.iload_n 1, 1) := by decide +kernel
theorem d_M_keepsOwn_5 : decode b_M_keepsOwn 5 = .ok (.iaload, 1) := by decide +kernel
theorem d_M_keepsOwn_6 : decode b_M_keepsOwn 6 = .ok (.istore_n 3, 1) := by decide +kernel
theorem d_M_keepsOwn_7 : decode b_M_keepsOwn 7 = .ok (.iload_n 3, 1) := by decide +kernel
theorem d_M_keepsOwn_8 : decode b_M_keepsOwn 8 = .ok (.aload_n 0, 1) := by decide +kernel
theorem d_M_keepsOwn_9 : decode b_M_keepsOwn 9 = .ok (.getfield 65, 3) := by decide +kernel
theorem d_M_keepsOwn_12 : decode b_M_keepsOwn 12 = .ok (.iload_n 2, 1) := by decide +kernel
theorem d_M_keepsOwn_13 : decode b_M_keepsOwn 13 = .ok (.iaload, 1) := by decide +kernel
theorem d_M_keepsOwn_14 : decode b_M_keepsOwn 14 = .ok (.if_icmp .lt 30, 3) := by decide +kernel
theorem d_M_keepsOwn_17 : decode b_M_keepsOwn 17 = .ok (.iload_n 3, 1) := by decide +kernel
theorem d_M_keepsOwn_18 : decode b_M_keepsOwn 18 = .ok (.aload_n 0, 1) := by decide +kernel
theorem d_M_keepsOwn_19 : decode b_M_keepsOwn 19 = .ok (.getfield 32, 3) := by decide +kernel
theorem d_M_keepsOwn_22 : decode b_M_keepsOwn 22 = .ok (.iload_n 2, 1) := by decide +kernel
theorem d_M_keepsOwn_23 : decode b_M_keepsOwn 23 = .ok (.iaload, 1) := by decide +kernel
theorem d_M_keepsOwn_24 : decode b_M_keepsOwn 24 = .ok (.if_icmp .lt 20, 3) := by decide +kernel
theorem d_M_keepsOwn_27 : decode b_M_keepsOwn 27 = .ok (.aload_n 0, 1) := by decide +kernel
theorem d_M_keepsOwn_28 : decode b_M_keepsOwn 28 = .ok (.getfield 77, 3) := by decide +kernel
theorem d_M_keepsOwn_31 : decode b_M_keepsOwn 31 = .ok (.iload_n 1, 1) := by decide +kernel
theorem d_M_keepsOwn_32 : decode b_M_keepsOwn 32 = .ok (.iaload, 1) := by decide +kernel
theorem d_M_keepsOwn_33 : decode b_M_keepsOwn 33 = .ok (.iconst 1, 1) := by decide +kernel
theorem d_M_keepsOwn_34 : decode b_M_keepsOwn 34 = .ok (.isub, 1) := by decide +kernel
theorem d_M_keepsOwn_35 : decode b_M_keepsOwn 35 = .ok (.aload_n 0, 1) := by decide +kernel
theorem d_M_keepsOwn_36 : decode b_M_keepsOwn 36 = .ok (.getfield 35, 3) := by decide +kernel
theorem d_M_keepsOwn_39 : decode b_M_keepsOwn 39 = .ok (.iload_n 2, 1) := by decide +kernel
theorem d_M_keepsOwn_40 : decode b_M_keepsOwn 40 = .ok (.iaload, 1) := by decide +kernel
theorem d_M_keepsOwn_41 : decode b_M_keepsOwn 41 = .ok (.if_icmp .le 5, 3) := by decide +kernel
theorem d_M_keepsOwn_44 : decode b_M_keepsOwn 44 = .ok (.iconst 0, 1) := by decide +kernel
theorem d_M_keepsOwn_45 : decode b_M_keepsOwn 45 = .ok (.ireturn, 1) := by decide +kernel
theorem d_M_keepsOwn_46 : decode b_M_keepsOwn 46 = .ok (.iconst 0, 1) := by decide +kernel
theorem d_M_keepsOwn_47 : decode b_M_keepsOwn 47 = .ok (.istore 4, 2) := by decide +kernel
theorem d_M_keepsOwn_49 : decode b_M_keepsOwn 49 = .ok (.iload 4, 2) := by decide +kernel
theorem d_M_keepsOwn_51 : decode b_M_keepsOwn 51 = .ok (.aload_n 0, 1) := by decide +kernel
theorem d_M_keepsOwn_52 : decode b_M_keepsOwn 52 = .ok (.getfield 117, 3) := by decide +kernel
theorem d_M_keepsOwn_55 : decode b_M_keepsOwn 55 = .ok (.if_icmp .ge 57, 3) := by decide +kernel
theorem d_M_keepsOwn_58 : decode b_M_keepsOwn 58 = .ok (.aload_n 0, 1) := by decide +kernel
theorem d_M_keepsOwn_59 : decode b_M_keepsOwn 59 = .ok (.getfield 38, 3) := by decide +kernel
theorem d_M_keepsOwn_62 : decode b_M_keepsOwn 62 = .ok (.iload 4, 2) := by decide +kernel
theorem d_M_keepsOwn_64 : decode b_M_keepsOwn 64 = .ok (.iaload, 1) := by decide +kernel
theorem d_M_keepsOwn_65 : decode b_M_keepsOwn 65 = .ok (.iload_n 2, 1) := by decide +kernel
theorem d_M_keepsOwn_66 : decode b_M_keepsOwn 66 = .ok (.if_icmp .ne 40, 3) := by decide +kernel
theorem d_M_keepsOwn_69 : decode b_M_keepsOwn 69 = .ok (.aload_n 0, 1) := by decide +kernel
theorem d_M_keepsOwn_70 : decode b_M_keepsOwn 70 = .ok (.getfield 80, 3) := by decide +kernel
theorem d_M_keepsOwn_73 : decode b_M_keepsOwn 73 = .ok (.sipush 201, 3) := by decide +kernel
theorem d_M_keepsOwn_76 : decode b_M_keepsOwn 76 = .ok (.iload_n 1, 1) := by decide +kernel
theorem d_M_keepsOwn_77 : decode b_M_keepsOwn 77 = .ok (.imul, 1) := by decide +kernel
theorem d_M_keepsOwn_78 : decode b_M_keepsOwn 78 = .ok (.aload_n 0, 1) := by decide +kernel
theorem d_M_keepsOwn_79 : decode b_M_keepsOwn 79 = .ok (.getfield 41, 3) := by decide +kernel
theorem d_M_keepsOwn_82 : decode b_M_keepsOwn 82 = .ok (.iload 4, 2) := by decide +kernel
theorem d_M_keepsOwn_84 : decode b_M_keepsOwn 84 = .ok (.iaload, 1) := by decide +kernel
theorem d_M_keepsOwn_85 : decode b_M_keepsOwn 85 = .ok (.iadd, 1) := by decide +kernel
theorem d_M_keepsOwn_86 : decode b_M_keepsOwn 86 = .ok (.iaload, 1) := by decide +kernel
theorem d_M_keepsOwn_87 : decode b_M_keepsOwn 87 = .ok (.aload_n 0, 1) := by decide +kernel
theorem d_M_keepsOwn_88 : decode b_M_keepsOwn 88 = .ok (.getfield 44, 3) := by decide +kernel
theorem d_M_keepsOwn_91 : decode b_M_keepsOwn 91 = .ok (.iload 4, 2) := by decide +kernel
theorem d_M_keepsOwn_93 : decode b_M_keepsOwn 93 = .ok (.iaload, 1) := by decide +kernel
theorem d_M_keepsOwn_94 : decode b_M_keepsOwn 94 = .ok (.aload_n 0, 1) := by decide +kernel
theorem d_M_keepsOwn_95 : decode b_M_keepsOwn 95 = .ok (.getfield 22, 3) := by decide +kernel
theorem d_M_keepsOwn_98 : decode b_M_keepsOwn 98 = .ok (.iload_n 2, 1) := by decide +kernel
theorem d_M_keepsOwn_99 : decode b_M_keepsOwn 99 = .ok (.iaload, 1) := by decide +kernel
theorem d_M_keepsOwn_100 : decode b_M_keepsOwn 100 = .ok (.imul, 1) := by decide +kernel
theorem d_M_keepsOwn_101 : decode b_M_keepsOwn 101 = .ok (.if_icmp .ge 5, 3) := by decide +kernel
theorem d_M_keepsOwn_104 : decode b_M_keepsOwn 104 = .ok (.iconst 0, 1) := by decide +kernel
theorem d_M_keepsOwn_105 : decode b_M_keepsOwn 105 = .ok (.ireturn, 1) := by decide +kernel
theorem d_M_keepsOwn_106 : decode b_M_keepsOwn 106 = .ok (.iinc 4 1, 3) := by decide +kernel
theorem d_M_keepsOwn_109 : decode b_M_keepsOwn 109 = .ok (.goto (-60), 3) := by decide +kernel
theorem d_M_keepsOwn_112 : decode b_M_keepsOwn 112 = .ok (.iconst 1, 1) := by decide +kernel
theorem d_M_keepsOwn_113 : decode b_M_keepsOwn 113 = .ok (.ireturn, 1) := by decide +kernel
theorem d_M_comesAfter_0 : decode b_M_comesAfter 0 = .ok (.aload_n 0, 1) := by decide +kernel
theorem d_M_comesAfter_1 : decode b_M_comesAfter 1 = .ok (.getfield 29, 3) := by decide +kernel
theorem d_M_comesAfter_4 : decode b_M_comesAfter 4 = .ok (.bipush 6, 2) := by decide +kernel
theorem d_M_comesAfter_6 : decode b_M_comesAfter 6 = .ok (.iload_n 2, 1) := by decide +kernel
theorem d_M_comesAfter_7 : decode b_M_comesAfter 7 = .ok (.imul, 1) := by decide +kernel
theorem d_M_comesAfter_8 : decode b_M_comesAfter 8 = .ok (.iload 4, 2) := by decide +kernel
theorem d_M_comesAfter_10 : decode b_M_comesAfter 10 = .ok (.iadd, 1) := by decide +kernel
theorem d_M_comesAfter_11 : decode b_M_comesAfter 11 = .ok (.iaload, 1) := by decide +kernel
theorem d_M_comesAfter_12 : decode b_M_comesAfter 12 = .ok (.istore 5, 2) := by decide +kernel
theorem d_M_comesAfter_14 : decode b_M_comesAfter 14 = .ok (.aload_n 0, 1) := by decide +kernel
theorem d_M_comesAfter_15 : decode b_M_comesAfter 15 = .ok (.getfield 16, 3) := by decide +kernel
theorem d_M_comesAfter_18 : decode b_M_comesAfter 18 = .ok (.iload_n 2, 1) := by decide +kernel
theorem d_M_comesAfter_19 : decode b_M_comesAfter 19 = .ok (.iaload, 1) := by decide +kernel
theorem d_M_comesAfter_20 : decode b_M_comesAfter 20 = .ok (.aload_n 0, 1) := by decide +kernel
theorem d_M_comesAfter_21 : decode b_M_comesAfter 21 = .ok (.getfield 16, 3) := by decide +kernel
theorem d_M_comesAfter_24 : decode b_M_comesAfter 24 = .ok (.iload 4, 2) := by decide +kernel
theorem d_M_comesAfter_26 : decode b_M_comesAfter 26 = .ok (.iaload, 1) := by decide +kernel
theorem d_M_comesAfter_27 : decode b_M_comesAfter 27 = .ok (.if_icmp .le 12, 3) := by decide +kernel
theorem d_M_comesAfter_30 : decode b_M_comesAfter 30 = .ok (.aload_n 0, 1) := by decide +kernel
theorem d_M_comesAfter_31 : decode b_M_comesAfter 31 = .ok (.getfield 16, 3) := by decide +kernel
theorem d_M_comesAfter_34 : decode b_M_comesAfter 34 = .ok (.iload_n 2, 1) := by decide +kernel
theorem d_M_comesAfter_35 : decode b_M_comesAfter 35 = .ok (.iaload, 1) := by decide +kernel
theorem d_M_comesAfter_36 : decode b_M_comesAfter 36 = .ok (.goto 10, 3) := by decide +kernel
theorem d_M_comesAfter_39 : decode b_M_comesAfter 39 = .ok (.aload_n 0, 1) := by decide +kernel
theorem d_M_comesAfter_40 : decode b_M_comesAfter 40 = .ok (.getfield 16, 3) := by decide +kernel
theorem d_M_comesAfter_43 : decode b_M_comesAfter 43 = .ok (.iload 4, 2) := by decide +kernel
theorem d_M_comesAfter_45 : decode b_M_comesAfter 45 = .ok (.iaload, 1) := by decide +kernel
theorem d_M_comesAfter_46 : decode b_M_comesAfter 46 = .ok (.istore 6, 2) := by decide +kernel
theorem d_M_comesAfter_48 : decode b_M_comesAfter 48 = .ok (.aload_n 0, 1) := by decide +kernel
theorem d_M_comesAfter_49 : decode b_M_comesAfter 49 = .ok (.getfield 19, 3) := by decide +kernel
theorem d_M_comesAfter_52 : decode b_M_comesAfter 52 = .ok (.iload_n 2, 1) := by decide +kernel
theorem d_M_comesAfter_53 : decode b_M_comesAfter 53 = .ok (.iaload, 1) := by decide +kernel
theorem d_M_comesAfter_54 : decode b_M_comesAfter 54 = .ok (.aload_n 0, 1) := by decide +kernel
theorem d_M_comesAfter_55 : decode b_M_comesAfter 55 = .ok (.getfield 19, 3) := by decide +kernel
theorem d_M_comesAfter_58 : decode b_M_comesAfter 58 = .ok (.iload 4, 2) := by decide +kernel
theorem d_M_comesAfter_60 : decode b_M_comesAfter 60 = .ok (.iaload, 1) := by decide +kernel
theorem d_M_comesAfter_61 : decode b_M_comesAfter 61 = .ok (.if_icmp .ge 12, 3) := by decide +kernel
theorem d_M_comesAfter_64 : decode b_M_comesAfter 64 = .ok (.aload_n 0, 1) := by decide +kernel
theorem d_M_comesAfter_65 : decode b_M_comesAfter 65 = .ok (.getfield 19, 3) := by decide +kernel
theorem d_M_comesAfter_68 : decode b_M_comesAfter 68 = .ok (.iload_n 2, 1) := by decide +kernel
theorem d_M_comesAfter_69 : decode b_M_comesAfter 69 = .ok (.iaload, 1) := by decide +kernel
theorem d_M_comesAfter_70 : decode b_M_comesAfter 70 = .ok (.goto 10, 3) := by decide +kernel
theorem d_M_comesAfter_73 : decode b_M_comesAfter 73 = .ok (.aload_n 0, 1) := by decide +kernel
theorem d_M_comesAfter_74 : decode b_M_comesAfter 74 = .ok (.getfield 19, 3) := by decide +kernel
theorem d_M_comesAfter_77 : decode b_M_comesAfter 77 = .ok (.iload 4, 2) := by decide +kernel
theorem d_M_comesAfter_79 : decode b_M_comesAfter 79 = .ok (.iaload, 1) := by decide +kernel
theorem d_M_comesAfter_80 : decode b_M_comesAfter 80 = .ok (.istore 7, 2) := by decide +kernel
theorem d_M_comesAfter_82 : decode b_M_comesAfter 82 = .ok (.iload 6, 2) := by decide +kernel
theorem d_M_comesAfter_84 : decode b_M_comesAfter 84 = .ok (.istore 8, 2) := by decide +kernel
theorem d_M_comesAfter_86 : decode b_M_comesAfter 86 = .ok (.iload 8, 2) := by decide +kernel
theorem d_M_comesAfter_88 : decode b_M_comesAfter 88 = .ok (.iload 7, 2) := by decide +kernel
theorem d_M_comesAfter_90 : decode b_M_comesAfter 90 = .ok (.if_icmp .gt 81, 3) := by decide +kernel
theorem d_M_comesAfter_93 : decode b_M_comesAfter 93 = .ok (.iload 5, 2) := by decide +kernel
theorem d_M_comesAfter_95 : decode b_M_comesAfter 95 = .ok (.ifCond .lt 76, 3) := by decide +kernel
theorem d_M_comesAfter_98 : decode b_M_comesAfter 98 = .ok (.aload_n 0, 1) := by decide +kernel
theorem d_M_comesAfter_99 : decode b_M_comesAfter 99 = .ok (.getfield 83, 3) := by decide +kernel
theorem d_M_comesAfter_102 : decode b_M_comesAfter 102 = .ok (.sipush 201, 3) := by decide +kernel
theorem d_M_comesAfter_105 : decode b_M_comesAfter 105 = .ok (.iload_n 1, 1) := by decide +kernel
theorem d_M_comesAfter_106 : decode b_M_comesAfter 106 = .ok (.imul, 1) := by decide +kernel
theorem d_M_comesAfter_107 : decode b_M_comesAfter 107 = .ok (.iload 8, 2) := by decide +kernel
theorem d_M_comesAfter_109 : decode b_M_comesAfter 109 = .ok (.iadd, 1) := by decide +kernel
theorem d_M_comesAfter_110 : decode b_M_comesAfter 110 = .ok (.iaload, 1) := by decide +kernel
theorem d_M_comesAfter_111 : decode b_M_comesAfter 111 = .ok (.i2l, 1) := by decide +kernel
theorem d_M_comesAfter_112 : decode b_M_comesAfter 112 = .ok (.iload 5, 2) := by decide +kernel
theorem d_M_comesAfter_114 : decode b_M_comesAfter 114 = .ok (.i2l, 1) := by decide +kernel
theorem d_M_comesAfter_115 : decode b_M_comesAfter 115 = .ok (.aload_n 0, 1) := by decide +kernel
theorem d_M_comesAfter_116 : decode b_M_comesAfter 116 = .ok (.getfield 22, 3) := by decide +kernel
theorem d_M_comesAfter_119 : decode b_M_comesAfter 119 = .ok (.iload_n 2, 1) := by decide +kernel
theorem d_M_comesAfter_120 : decode b_M_comesAfter 120 = .ok (.iaload, 1) := by decide +kernel
theorem d_M_comesAfter_121 : decode b_M_comesAfter 121 = .ok (.i2l, 1) := by decide +kernel
theorem d_M_comesAfter_122 : decode b_M_comesAfter 122 = .ok (.lmul, 1) := by decide +kernel
theorem d_M_comesAfter_123 : decode b_M_comesAfter 123 = .ok (.ladd, 1) := by decide +kernel
theorem d_M_comesAfter_124 : decode b_M_comesAfter 124 = .ok (.lstore 9, 2) := by decide +kernel
theorem d_M_comesAfter_126 : decode b_M_comesAfter 126 = .ok (.aload_n 0, 1) := by decide +kernel
theorem d_M_comesAfter_127 : decode b_M_comesAfter 127 = .ok (.getfield 80, 3) := by decide +kernel
theorem d_M_comesAfter_130 : decode b_M_comesAfter 130 = .ok (.sipush 201, 3) := by decide +kernel
theorem d_M_comesAfter_133 : decode b_M_comesAfter 133 = .ok (.iload_n 3, 1) := by decide +kernel
theorem d_M_comesAfter_134 : decode b_M_comesAfter 134 = .ok (.imul, 1) := by decide +kernel
theorem d_M_comesAfter_135 : decode b_M_comesAfter 135 = .ok (.iload 8, 2) := by decide +kernel
theorem d_M_comesAfter_137 : decode b_M_comesAfter 137 = .ok (.iadd, 1) := by decide +kernel
theorem d_M_comesAfter_138 : decode b_M_comesAfter 138 = .ok (.iaload, 1) := by decide +kernel
theorem d_M_comesAfter_139 : decode b_M_comesAfter 139 = .ok (.i2l, 1) := by decide +kernel
theorem d_M_comesAfter_140 : decode b_M_comesAfter 140 = .ok (.aload_n 0, 1) := by decide +kernel
theorem d_M_comesAfter_141 : decode b_M_comesAfter 141 = .ok (.getfield 22, 3) := by decide +kernel
theorem d_M_comesAfter_144 : decode b_M_comesAfter 144 = .ok (.iload_n 2, 1) := by decide +kernel
theorem d_M_comesAfter_145 : decode b_M_comesAfter 145 = .ok (.iaload, 1) := by decide +kernel
theorem d_M_comesAfter_146 : decode b_M_comesAfter 146 = .ok (.i2l, 1) := by decide +kernel
theorem d_M_comesAfter_147 : decode b_M_comesAfter 147 = .ok (.lmul, 1) := by decide +kernel
theorem d_M_comesAfter_148 : decode b_M_comesAfter 148 = .ok (.lload 9, 2) := by decide +kernel
theorem d_M_comesAfter_150 : decode b_M_comesAfter 150 = .ok (.aload_n 0, 1) := by decide +kernel
theorem d_M_comesAfter_151 : decode b_M_comesAfter 151 = .ok (.getfield 22, 3) := by decide +kernel
theorem d_M_comesAfter_154 : decode b_M_comesAfter 154 = .ok (.iload 4, 2) := by decide +kernel
theorem d_M_comesAfter_156 : decode b_M_comesAfter 156 = .ok (.iaload, 1) := by decide +kernel
theorem d_M_comesAfter_157 : decode b_M_comesAfter 157 = .ok (.i2l, 1) := by decide +kernel
theorem d_M_comesAfter_158 : decode b_M_comesAfter 158 = .ok (.lmul, 1) := by decide +kernel
theorem d_M_comesAfter_159 : decode b_M_comesAfter 159 = .ok (.lcmp, 1) := by decide +kernel
theorem d_M_comesAfter_160 : decode b_M_comesAfter 160 = .ok (.ifCond .ge 5, 3) := by decide +kernel
theorem d_M_comesAfter_163 : decode b_M_comesAfter 163 = .ok (.iconst 0, 1) := by decide +kernel
theorem d_M_comesAfter_164 : decode b_M_comesAfter 164 = .ok (.ireturn, 1) := by decide +kernel
theorem d_M_comesAfter_165 : decode b_M_comesAfter 165 = .ok (.iinc 8 1, 3) := by decide +kernel
theorem d_M_comesAfter_168 : decode b_M_comesAfter 168 = .ok (.goto (-82), 3) := by decide +kernel
theorem d_M_comesAfter_171 : decode b_M_comesAfter 171 = .ok (.iconst 1, 1) := by decide +kernel
theorem d_M_comesAfter_172 : decode b_M_comesAfter 172 = .ok (.ireturn, 1) := by decide +kernel
theorem d_M_goesWith_0 : decode b_M_goesWith 0 = .ok (.aload_n 0, 1) := by decide +kernel
theorem d_M_goesWith_1 : decode b_M_goesWith 1 = .ok (.getfield 13, 3) := by decide +kernel
theorem d_M_goesWith_4 : decode b_M_goesWith 4 = .ok (.iload_n 2, 1) := by decide +kernel
theorem d_M_goesWith_5 : decode b_M_goesWith 5 = .ok (.iaload, 1) := by decide +kernel
theorem d_M_goesWith_6 : decode b_M_goesWith 6 = .ok (.aload_n 0, 1) := by decide +kernel
theorem d_M_goesWith_7 : decode b_M_goesWith 7 = .ok (.getfield 13, 3) := by decide +kernel
theorem d_M_goesWith_10 : decode b_M_goesWith 10 = .ok (.iload 4, 2) := by decide +kernel
theorem d_M_goesWith_12 : decode b_M_goesWith 12 = .ok (.iaload, 1) := by decide +kernel
theorem d_M_goesWith_13 : decode b_M_goesWith 13 = .ok (.if_icmp .ne 33, 3) := by decide +kernel
theorem d_M_goesWith_16 : decode b_M_goesWith 16 = .ok (.aload_n 0, 1) := by decide +kernel
theorem d_M_goesWith_17 : decode b_M_goesWith 17 = .ok (.getfield 77, 3) := by decide +kernel
theorem d_M_goesWith_20 : decode b_M_goesWith 20 = .ok (.iload_n 1, 1) := by decide +kernel
theorem d_M_goesWith_21 : decode b_M_goesWith 21 = .ok (.iaload, 1) := by decide +kernel
theorem d_M_goesWith_22 : decode b_M_goesWith 22 = .ok (.aload_n 0, 1) := by decide +kernel
theorem d_M_goesWith_23 : decode b_M_goesWith 23 = .ok (.getfield 71, 3) := by decide +kernel
theorem d_M_goesWith_26 : decode b_M_goesWith 26 = .ok (.iload_n 3, 1) := by decide +kernel
theorem d_M_goesWith_27 : decode b_M_goesWith 27 = .ok (.iaload, 1) := by decide +kernel
theorem d_M_goesWith_28 : decode b_M_goesWith 28 = .ok (.if_icmp .le 18, 3) := by decide +kernel
theorem d_M_goesWith_31 : decode b_M_goesWith 31 = .ok (.aload_n 0, 1) := by decide +kernel
theorem d_M_goesWith_32 : decode b_M_goesWith 32 = .ok (.getfield 77, 3) := by decide +kernel
theorem d_M_goesWith_35 : decode b_M_goesWith 35 = .ok (.iload_n 3, 1) := by decide +kernel
theorem d_M_goesWith_36 : decode b_M_goesWith 36 = .ok (.iaload, 1) := by decide +kernel
theorem d_M_goesWith_37 : decode b_M_goesWith 37 = .ok (.aload_n 0, 1) := by decide +kernel
theorem d_M_goesWith_38 : decode b_M_goesWith 38 = .ok (.getfield 71, 3) := by decide +kernel
theorem d_M_goesWith_41 : decode b_M_goesWith 41 = .ok (.iload_n 1, 1) := by decide +kernel
theorem d_M_goesWith_42 : decode b_M_goesWith 42 = .ok (.iaload, 1) := by decide +kernel
theorem d_M_goesWith_43 : decode b_M_goesWith 43 = .ok (.if_icmp .gt 7, 3) := by decide +kernel
theorem d_M_goesWith_46 : decode b_M_goesWith 46 = .ok (.iconst 1, 1) := by decide +kernel
theorem d_M_goesWith_47 : decode b_M_goesWith 47 = .ok (.goto 4, 3) := by decide +kernel
theorem d_M_goesWith_50 : decode b_M_goesWith 50 = .ok (.iconst 0, 1) := by decide +kernel
theorem d_M_goesWith_51 : decode b_M_goesWith 51 = .ok (.istore 5, 2) := by decide +kernel
theorem d_M_goesWith_53 : decode b_M_goesWith 53 = .ok (.iload 5, 2) := by decide +kernel
theorem d_M_goesWith_55 : decode b_M_goesWith 55 = .ok (.ifCond .eq 31, 3) := by decide +kernel
theorem d_M_goesWith_58 : decode b_M_goesWith 58 = .ok (.aload_n 0, 1) := by decide +kernel
theorem d_M_goesWith_59 : decode b_M_goesWith 59 = .ok (.iload_n 1, 1) := by decide +kernel
theorem d_M_goesWith_60 : decode b_M_goesWith 60 = .ok (.iload_n 2, 1) := by decide +kernel
theorem d_M_goesWith_61 : decode b_M_goesWith 61 = .ok (.iload_n 3, 1) := by decide +kernel
theorem d_M_goesWith_62 : decode b_M_goesWith 62 = .ok (.iload 4, 2) := by decide +kernel
theorem d_M_goesWith_64 : decode b_M_goesWith 64 = .ok (.invokevirtual 130, 3) := by decide +kernel
theorem d_M_goesWith_67 : decode b_M_goesWith 67 = .ok (.ifCond .eq 19, 3) := by decide +kernel
theorem d_M_goesWith_70 : decode b_M_goesWith 70 = .ok (.aload_n 0, 1) := by decide +kernel
theorem d_M_goesWith_71 : decode b_M_goesWith 71 = .ok (.iload_n 3, 1) := by decide +kernel
theorem d_M_goesWith_72 : decode b_M_goesWith 72 = .ok (.iload 4, 2) := by decide +kernel
theorem d_M_goesWith_74 : decode b_M_goesWith 74 = .ok (.iload_n 1, 1) := by decide +kernel
theorem d_M_goesWith_75 : decode b_M_goesWith 75 = .ok (.iload_n 2, 1) := by decide +kernel
theorem d_M_goesWith_76 : decode b_M_goesWith 76 = .ok (.invokevirtual 130, 3) := by decide +kernel
theorem d_M_goesWith_79 : decode b_M_goesWith 79 = .ok (.ifCond .eq 7, 3) := by decide +kernel
theorem d_M_goesWith_82 : decode b_M_goesWith 82 = .ok (.iconst 1, 1) := by decide +kernel
theorem d_M_goesWith_83 : decode b_M_goesWith 83 = .ok (.goto 4, 3) := by decide +kernel
theorem d_M_goesWith_86 : decode b_M_goesWith 86 = .ok (.iconst 0, 1) := by decide +kernel
theorem d_M_goesWith_87 : decode b_M_goesWith 87 = .ok (.ireturn, 1) := by decide +kernel
theorem d_M_isUnder_0 : decode b_M_isUnder 0 = .ok (.iload_n 2, 1) := by decide +kernel
theorem d_M_isUnder_1 : decode b_M_isUnder 1 = .ok (.aload_n 0, 1) := by decide +kernel
theorem d_M_isUnder_2 : decode b_M_isUnder 2 = .ok (.getfield 71, 3) := by decide +kernel
theorem d_M_isUnder_5 : decode b_M_isUnder 5 = .ok (.iload_n 1, 1) := by decide +kernel
theorem d_M_isUnder_6 : decode b_M_isUnder 6 = .ok (.iaload, 1) := by decide +kernel
theorem d_M_isUnder_7 : decode b_M_isUnder 7 = .ok (.if_icmp .lt 25, 3) := by decide +kernel
theorem d_M_isUnder_10 : decode b_M_isUnder 10 = .ok (.iload_n 2, 1) := by decide +kernel
theorem d_M_isUnder_11 : decode b_M_isUnder 11 = .ok (.aload_n 0, 1) := by decide +kernel
theorem d_M_isUnder_12 : decode b_M_isUnder 12 = .ok (.getfield 77, 3) := by decide +kernel
theorem d_M_isUnder_15 : decode b_M_isUnder 15 = .ok (.iload_n 1, 1) := by decide +kernel
theorem d_M_isUnder_16 : decode b_M_isUnder 16 = .ok (.iaload, 1) := by decide +kernel
theorem d_M_isUnder_17 : decode b_M_isUnder 17 = .ok (.if_icmp .ge 15, 3) := by decide +kernel
theorem d_M_isUnder_20 : decode b_M_isUnder 20 = .ok (.aload_n 0, 1) := by decide +kernel
theorem d_M_isUnder_21 : decode b_M_isUnder 21 = .ok (.iload_n 2, 1) := by decide +kernel
theorem d_M_isUnder_22 : decode b_M_isUnder 22 = .ok (.invokevirtual 123, 3) := by decide +kernel
theorem d_M_isUnder_25 : decode b_M_isUnder 25 = .ok (.ifCond .ne 7, 3) := by decide +kernel
theorem d_M_isUnder_28 : decode b_M_isUnder 28 = .ok (.iconst 1, 1) := by decide +kernel
theorem d_M_isUnder_29 : decode b_M_isUnder 29 = .ok (.goto 4, 3) := by decide +kernel
theorem d_M_isUnder_32 : decode b_M_isUnder 32 = .ok (.iconst 0, 1) := by decide +kernel
theorem d_M_isUnder_33 : decode b_M_isUnder 33 = .ok (.ireturn, 1) := by decide +kernel
theorem d_M_keepsAll_0 : decode b_M_keepsAll 0 = .ok (.aload_n 0, 1) := by decide +kernel
theorem d_M_keepsAll_1 : decode b_M_keepsAll 1 = .ok (.iload_n 1, 1) := by decide +kernel
theorem d_M_keepsAll_2 : decode b_M_keepsAll 2 = .ok (.iload_n 2, 1) := by decide +kernel
theorem d_M_keepsAll_3 : decode b_M_keepsAll 3 = .ok (.invokevirtual 134, 3) := by decide +kernel
theorem d_M_keepsAll_6 : decode b_M_keepsAll 6 = .ok (.ifCond .ne 5, 3) := by decide +kernel
theorem d_M_keepsAll_9 : decode b_M_keepsAll 9 = .ok (.iconst 0, 1) := by decide +kernel
theorem d_M_keepsAll_10 : decode b_M_keepsAll 10 = .ok (.ireturn, 1) := by decide +kernel
theorem d_M_keepsAll_11 : decode b_M_keepsAll 11 = .ok (.iconst 0, 1) := by decide +kernel
theorem d_M_keepsAll_12 : decode b_M_keepsAll 12 = .ok (.istore 4, 2) := by decide +kernel
theorem d_M_keepsAll_14 : decode b_M_keepsAll 14 = .ok (.iload 4, 2) := by decide +kernel
theorem d_M_keepsAll_16 : decode b_M_keepsAll 16 = .ok (.iload_n 3, 1) := by decide +kernel
theorem d_M_keepsAll_17 : decode b_M_keepsAll 17 = .ok (.if_icmp .ge 30, 3) := by decide +kernel
theorem d_M_keepsAll_20 : decode b_M_keepsAll 20 = .ok (.iload 4, 2) := by decide +kernel
theorem d_M_keepsAll_22 : decode b_M_keepsAll 22 = .ok (.iload_n 2, 1) := by decide +kernel
theorem d_M_keepsAll_23 : decode b_M_keepsAll 23 = .ok (.if_icmp .eq 18, 3) := by decide +kernel
theorem d_M_keepsAll_26 : decode b_M_keepsAll 26 = .ok (.aload_n 0, 1) := by decide +kernel
theorem d_M_keepsAll_27 : decode b_M_keepsAll 27 = .ok (.iload_n 1, 1) := by decide +kernel
theorem d_M_keepsAll_28 : decode b_M_keepsAll 28 = .ok (.iload_n 2, 1) := by decide +kernel
theorem d_M_keepsAll_29 : decode b_M_keepsAll 29 = .ok (.iload 4, 2) := by decide +kernel
theorem d_M_keepsAll_31 : decode b_M_keepsAll 31 = .ok (.iload 4, 2) := by decide +kernel
theorem d_M_keepsAll_33 : decode b_M_keepsAll 33 = .ok (.invokevirtual 138, 3) := by decide +kernel
theorem d_M_keepsAll_36 : decode b_M_keepsAll 36 = .ok (.ifCond .ne 5, 3) := by decide +kernel
theorem d_M_keepsAll_39 : decode b_M_keepsAll 39 = .ok (.iconst 0, 1) := by decide +kernel
theorem d_M_keepsAll_40 : decode b_M_keepsAll 40 = .ok (.ireturn, 1) := by decide +kernel
theorem d_M_keepsAll_41 : decode b_M_keepsAll 41 = .ok (.iinc 4 1, 3) := by decide +kernel
theorem d_M_keepsAll_44 : decode b_M_keepsAll 44 = .ok (.goto (-30), 3) := by decide +kernel
theorem d_M_keepsAll_47 : decode b_M_keepsAll 47 = .ok (.aload_n 0, 1) := by decide +kernel
theorem d_M_keepsAll_48 : decode b_M_keepsAll 48 = .ok (.getfield 7, 3) := by decide +kernel
theorem d_M_keepsAll_51 : decode b_M_keepsAll 51 = .ok (.aload_n 0, 1) := by decide +kernel
theorem d_M_keepsAll_52 : decode b_M_keepsAll 52 = .ok (.getfield 13, 3) := by decide +kernel
theorem d_M_keepsAll_55 : decode b_M_keepsAll 55 = .ok (.iload_n 2, 1) := by decide +kernel
theorem d_M_keepsAll_56 : decode b_M_keepsAll 56 = .ok (.iaload, 1) := by decide +kernel
theorem d_M_keepsAll_57 : decode b_M_keepsAll 57 = .ok (.iaload, 1) := by decide +kernel
theorem d_M_keepsAll_58 : decode b_M_keepsAll 58 = .ok (.istore 4, 2) := by decide +kernel
theorem d_M_keepsAll_60 : decode b_M_keepsAll 60 = .ok (.aload_n 0, 1) := by decide +kernel
theorem d_M_keepsAll_61 : decode b_M_keepsAll 61 = .ok (.getfield 71, 3) := by decide +kernel
theorem d_M_keepsAll_64 : decode b_M_keepsAll 64 = .ok (.iload_n 1, 1) := by decide +kernel
theorem d_M_keepsAll_65 : decode b_M_keepsAll 65 = .ok (.iaload, 1) := by decide +kernel
theorem d_M_keepsAll_66 : decode b_M_keepsAll 66 = .ok (.istore 5, 2) := by decide +kernel
theorem d_M_keepsAll_68 : decode b_M_keepsAll 68 = .ok (.iload 5, 2) := by decide +kernel
theorem d_M_keepsAll_70 : decode b_M_keepsAll 70 = .ok (.aload_n 0, 1) := by decide +kernel
theorem d_M_keepsAll_71 : decode b_M_keepsAll 71 = .ok (.getfield 77, 3) := by decide +kernel
theorem d_M_keepsAll_74 : decode b_M_keepsAll 74 = .ok (.iload_n 1, 1) := by decide +kernel
theorem d_M_keepsAll_75 : decode b_M_keepsAll 75 = .ok (.iaload, 1) := by decide +kernel
theorem d_M_keepsAll_76 : decode b_M_keepsAll 76 = .ok (.if_icmp .ge 104, 3) := by decide +kernel
theorem d_M_keepsAll_79 : decode b_M_keepsAll 79 = .ok (.aload_n 0, 1) := by decide +kernel
theorem d_M_keepsAll_80 : decode b_M_keepsAll 80 = .ok (.iload_n 1, 1) := by decide +kernel
theorem d_M_keepsAll_81 : decode b_M_keepsAll 81 = .ok (.iload 5, 2) := by decide +kernel
theorem d_M_keepsAll_83 : decode b_M_keepsAll 83 = .ok (.invokevirtual 141, 3) := by decide +kernel
theorem d_M_keepsAll_86 : decode b_M_keepsAll 86 = .ok (.ifCond .eq 7, 3) := by decide +kernel
theorem d_M_keepsAll_89 : decode b_M_keepsAll 89 = .ok (.iconst 1, 1) := by decide +kernel
theorem d_M_keepsAll_90 : decode b_M_keepsAll 90 = .ok (.goto 4, 3) := by decide +kernel
theorem d_M_keepsAll_93 : decode b_M_keepsAll 93 = .ok (.iconst 0, 1) := by decide +kernel
theorem d_M_keepsAll_94 : decode b_M_keepsAll 94 = .ok (.istore 6, 2) := by decide +kernel
theorem d_M_keepsAll_96 : decode b_M_keepsAll 96 = .ok (.iconst 0, 1) := by decide +kernel
theorem d_M_keepsAll_97 : decode b_M_keepsAll 97 = .ok (.istore 7, 2) := by decide +kernel
theorem d_M_keepsAll_99 : decode b_M_keepsAll 99 = .ok (.iload 7, 2) := by decide +kernel
theorem d_M_keepsAll_101 : decode b_M_keepsAll 101 = .ok (.iload_n 3, 1) := by decide +kernel
theorem d_M_keepsAll_102 : decode b_M_keepsAll 102 = .ok (.if_icmp .ge 58, 3) := by decide +kernel
theorem d_M_keepsAll_105 : decode b_M_keepsAll 105 = .ok (.iload 6, 2) := by decide +kernel
theorem d_M_keepsAll_107 : decode b_M_keepsAll 107 = .ok (.ifCond .le 53, 3) := by decide +kernel
theorem d_M_keepsAll_110 : decode b_M_keepsAll 110 = .ok (.iload 6, 2) := by decide +kernel
theorem d_M_keepsAll_112 : decode b_M_keepsAll 112 = .ok (.iload 7, 2) := by decide +kernel
theorem d_M_keepsAll_114 : decode b_M_keepsAll 114 = .ok (.iload_n 2, 1) := by decide +kernel
theorem d_M_keepsAll_115 : decode b_M_keepsAll 115 = .ok (.if_icmp .eq 35, 3) := by decide +kernel
theorem d_M_keepsAll_118 : decode b_M_keepsAll 118 = .ok (.aload_n 0, 1) := by decide +kernel
theorem d_M_keepsAll_119 : decode b_M_keepsAll 119 = .ok (.getfield 7, 3) := by decide +kernel
theorem d_M_keepsAll_122 : decode b_M_keepsAll 122 = .ok (.aload_n 0, 1) := by decide +kernel
theorem d_M_keepsAll_123 : decode b_M_keepsAll 123 = .ok (.getfield 13, 3) := by decide +kernel
theorem d_M_keepsAll_126 : decode b_M_keepsAll 126 = .ok (.iload 7, 2) := by decide +kernel
theorem d_M_keepsAll_128 : decode b_M_keepsAll 128 = .ok (.iaload, 1) := by decide +kernel
theorem d_M_keepsAll_129 : decode b_M_keepsAll 129 = .ok (.iaload, 1) := by decide +kernel
theorem d_M_keepsAll_130 : decode b_M_keepsAll 130 = .ok (.iload 4, 2) := by decide +kernel
theorem d_M_keepsAll_132 : decode b_M_keepsAll 132 = .ok (.if_icmp .ne 18, 3) := by decide +kernel
theorem d_M_keepsAll_135 : decode b_M_keepsAll 135 = .ok (.aload_n 0, 1) := by decide +kernel
theorem d_M_keepsAll_136 : decode b_M_keepsAll 136 = .ok (.iload 7, 2) := by decide +kernel
theorem d_M_keepsAll_138 : decode b_M_keepsAll 138 = .ok (.iload 5, 2) := by decide +kernel
theorem d_M_keepsAll_140 : decode b_M_keepsAll 140 = .ok (.invokevirtual 141, 3) := by decide +kernel
theorem d_M_keepsAll_143 : decode b_M_keepsAll 143 = .ok (.ifCond .eq 7, 3) := by decide +kernel
theorem d_M_keepsAll_146 : decode b_M_keepsAll 146 = .ok (.iconst 1, 1) := by decide +kernel
theorem d_M_keepsAll_147 : decode b_M_keepsAll 147 = .ok (.goto 4, 3) := by decide +kernel
theorem d_M_keepsAll_150 : decode b_M_keepsAll 150 = .ok (.iconst 0, 1) := by decide +kernel
theorem d_M_keepsAll_151 : decode b_M_keepsAll 151 = .ok (.iadd, 1) := by decide +kernel
theorem d_M_keepsAll_152 : decode b_M_keepsAll 152 = .ok (.istore 6, 2) := by decide +kernel
theorem d_M_keepsAll_154 : decode b_M_keepsAll 154 = .ok (.iinc 7 1, 3) := by decide +kernel
theorem d_M_keepsAll_157 : decode b_M_keepsAll 157 = .ok (.goto (-58), 3) := by decide +kernel
theorem d_M_keepsAll_160 : decode b_M_keepsAll 160 = .ok (.iload 6, 2) := by decide +kernel
theorem d_M_keepsAll_162 : decode b_M_keepsAll 162 = .ok (.aload_n 0, 1) := by decide +kernel
theorem d_M_keepsAll_163 : decode b_M_keepsAll 163 = .ok (.getfield 53, 3) := by decide +kernel
theorem d_M_keepsAll_166 : decode b_M_keepsAll 166 = .ok (.iload 4, 2) := by decide +kernel
theorem d_M_keepsAll_168 : decode b_M_keepsAll 168 = .ok (.iaload, 1) := by decide +kernel
theorem d_M_keepsAll_169 : decode b_M_keepsAll 169 = .ok (.if_icmp .le 5, 3) := by decide +kernel
theorem d_M_keepsAll_172 : decode b_M_keepsAll 172 = .ok (.iconst 0, 1) := by decide +kernel
theorem d_M_keepsAll_173 : decode b_M_keepsAll 173 = .ok (.ireturn, 1) := by decide +kernel
theorem d_M_keepsAll_174 : decode b_M_keepsAll 174 = .ok (.iinc 5 1, 3) := by decide +kernel
theorem d_M_keepsAll_177 : decode b_M_keepsAll 177 = .ok (.goto (-109), 3) := by decide +kernel
theorem d_M_keepsAll_180 : decode b_M_keepsAll 180 = .ok (.iconst 1, 1) := by decide +kernel
theorem d_M_keepsAll_181 : decode b_M_keepsAll 181 = .ok (.ireturn, 1) := by decide +kernel
theorem d_M_triesOf_0 : decode b_M_triesOf 0 = .ok (.aload_n 0, 1) := by decide +kernel
theorem d_M_triesOf_1 : decode b_M_triesOf 1 = .ok (.getfield 62, 3) := by decide +kernel
theorem d_M_triesOf_4 : decode b_M_triesOf 4 = .ok (.iload_n 1, 1) := by decide +kernel
theorem d_M_triesOf_5 : decode b_M_triesOf 5 = .ok (.baload, 1) := by decide +kernel
theorem d_M_triesOf_6 : decode b_M_triesOf 6 = .ok (.ifCond .eq 7, 3) := by decide +kernel
theorem d_M_triesOf_9 : decode b_M_triesOf 9 = .ok (.iconst 1, 1) := by decide +kernel
theorem d_M_triesOf_10 : decode b_M_triesOf 10 = .ok (.goto 20, 3) := by decide +kernel
theorem d_M_triesOf_13 : decode b_M_triesOf 13 = .ok (.aload_n 0, 1) := by decide +kernel
theorem d_M_triesOf_14 : decode b_M_triesOf 14 = .ok (.getfield 25, 3) := by decide +kernel
theorem d_M_triesOf_17 : decode b_M_triesOf 17 = .ok (.iload_n 1, 1) := by decide +kernel
theorem d_M_triesOf_18 : decode b_M_triesOf 18 = .ok (.baload, 1) := by decide +kernel
theorem d_M_triesOf_19 : decode b_M_triesOf 19 = .ok (.ifCond .eq 9, 3) := by decide +kernel
theorem d_M_triesOf_22 : decode b_M_triesOf 22 = .ok (.sipush 200, 3) := by decide +kernel
theorem d_M_triesOf_25 : decode b_M_triesOf 25 = .ok (.goto 5, 3) := by decide +kernel
theorem d_M_triesOf_28 : decode b_M_triesOf 28 = .ok (.bipush 100, 2) := by decide +kernel
theorem d_M_triesOf_30 : decode b_M_triesOf 30 = .ok (.ireturn, 1) := by decide +kernel
theorem d_M_movedSoFar_0 : decode b_M_movedSoFar 0 = .ok (.iconst 0, 1) := by decide +kernel
theorem d_M_movedSoFar_1 : decode b_M_movedSoFar 1 = .ok (.istore_n 2, 1) := by decide +kernel
theorem d_M_movedSoFar_2 : decode b_M_movedSoFar 2 = .ok (.iconst 0, 1) := by decide +kernel
theorem d_M_movedSoFar_3 : decode b_M_movedSoFar 3 = .ok (.istore_n 3, 1) := by decide +kernel
theorem d_M_movedSoFar_4 : decode b_M_movedSoFar 4 = .ok (.iload_n 3, 1) := by decide +kernel
theorem d_M_movedSoFar_5 : decode b_M_movedSoFar 5 = .ok (.iload_n 1, 1) := by decide +kernel
theorem d_M_movedSoFar_6 : decode b_M_movedSoFar 6 = .ok (.if_icmp .ge 47, 3) := by decide +kernel
theorem d_M_movedSoFar_9 : decode b_M_movedSoFar 9 = .ok (.iload_n 2, 1) := by decide +kernel
theorem d_M_movedSoFar_10 : decode b_M_movedSoFar 10 = .ok (.aload_n 0, 1) := by decide +kernel
theorem d_M_movedSoFar_11 : decode b_M_movedSoFar 11 = .ok (.getfield 71, 3) := by decide +kernel
theorem d_M_movedSoFar_14 : decode b_M_movedSoFar 14 = .ok (.iload_n 3, 1) := by decide +kernel
theorem d_M_movedSoFar_15 : decode b_M_movedSoFar 15 = .ok (.iaload, 1) := by decide +kernel
theorem d_M_movedSoFar_16 : decode b_M_movedSoFar 16 = .ok (.aload_n 0, 1) := by decide +kernel
theorem d_M_movedSoFar_17 : decode b_M_movedSoFar 17 = .ok (.getfield 56, 3) := by decide +kernel
theorem d_M_movedSoFar_20 : decode b_M_movedSoFar 20 = .ok (.iload_n 3, 1) := by decide +kernel
theorem d_M_movedSoFar_21 : decode b_M_movedSoFar 21 = .ok (.iaload, 1) := by decide +kernel
theorem d_M_movedSoFar_22 : decode b_M_movedSoFar 22 = .ok (.if_icmp .ne 18, 3) := by decide +kernel
theorem d_M_movedSoFar_25 : decode b_M_movedSoFar 25 = .ok (.aload_n 0, 1) := by decide +kernel
theorem d_M_movedSoFar_26 : decode b_M_movedSoFar 26 = .ok (.getfield 74, 3) := by decide +kernel
theorem d_M_movedSoFar_29 : decode b_M_movedSoFar 29 = .ok (.iload_n 3, 1) := by decide +kernel
theorem d_M_movedSoFar_30 : decode b_M_movedSoFar 30 = .ok (.iaload, 1) := by decide +kernel
theorem d_M_movedSoFar_31 : decode b_M_movedSoFar 31 = .ok (.aload_n 0, 1) := by decide +kernel
theorem d_M_movedSoFar_32 : decode b_M_movedSoFar 32 = .ok (.getfield 59, 3) := by decide +kernel
theorem d_M_movedSoFar_35 : decode b_M_movedSoFar 35 = .ok (.iload_n 3, 1) := by decide +kernel
theorem d_M_movedSoFar_36 : decode b_M_movedSoFar 36 = .ok (.iaload, 1) := by decide +kernel
theorem d_M_movedSoFar_37 : decode b_M_movedSoFar 37 = .ok (.if_icmp .eq 7, 3) := by decide +kernel
theorem d_M_movedSoFar_40 : decode b_M_movedSoFar 40 = .ok (.iconst 1, 1) := by decide +kernel
theorem d_M_movedSoFar_41 : decode b_M_movedSoFar 41 = .ok (.goto 4, 3) := by decide +kernel
theorem d_M_movedSoFar_44 : decode b_M_movedSoFar 44 = .ok (.iconst 0, 1) := by decide +kernel
theorem d_M_movedSoFar_45 : decode b_M_movedSoFar 45 = .ok (.iadd, 1) := by decide +kernel
theorem d_M_movedSoFar_46 : decode b_M_movedSoFar 46 = .ok (.istore_n 2, 1) := by decide +kernel
theorem d_M_movedSoFar_47 : decode b_M_movedSoFar 47 = .ok (.iinc 3 1, 3) := by decide +kernel
theorem d_M_movedSoFar_50 : decode b_M_movedSoFar 50 = .ok (.goto (-46), 3) := by decide +kernel
theorem d_M_movedSoFar_53 : decode b_M_movedSoFar 53 = .ok (.iload_n 2, 1) := by decide +kernel
theorem d_M_movedSoFar_54 : decode b_M_movedSoFar 54 = .ok (.ireturn, 1) := by decide +kernel
theorem d_M_greatestEnd_0 : decode b_M_greatestEnd 0 = .ok (.iconst 0, 1) := by decide +kernel
theorem d_M_greatestEnd_1 : decode b_M_greatestEnd 1 = .ok (.istore_n 2, 1) := by decide +kernel
theorem d_M_greatestEnd_2 : decode b_M_greatestEnd 2 = .ok (.iconst 0, 1) := by decide +kernel
theorem d_M_greatestEnd_3 : decode b_M_greatestEnd 3 = .ok (.istore_n 3, 1) := by decide +kernel
theorem d_M_greatestEnd_4 : decode b_M_greatestEnd 4 = .ok (.iload_n 3, 1) := by decide +kernel
theorem d_M_greatestEnd_5 : decode b_M_greatestEnd 5 = .ok (.iload_n 1, 1) := by decide +kernel
theorem d_M_greatestEnd_6 : decode b_M_greatestEnd 6 = .ok (.if_icmp .ge 30, 3) := by decide +kernel
theorem d_M_greatestEnd_9 : decode b_M_greatestEnd 9 = .ok (.aload_n 0, 1) := by decide +kernel
theorem d_M_greatestEnd_10 : decode b_M_greatestEnd 10 = .ok (.getfield 77, 3) := by decide +kernel
theorem d_M_greatestEnd_13 : decode b_M_greatestEnd 13 = .ok (.iload_n 3, 1) := by decide +kernel
theorem d_M_greatestEnd_14 : decode b_M_greatestEnd 14 = .ok (.iaload, 1) := by decide +kernel
theorem d_M_greatestEnd_15 : decode b_M_greatestEnd 15 = .ok (.iload_n 2, 1) := by decide +kernel
theorem d_M_greatestEnd_16 : decode b_M_greatestEnd 16 = .ok (.if_icmp .le 12, 3) := by decide +kernel
theorem d_M_greatestEnd_19 : decode b_M_greatestEnd 19 = .ok (.aload_n 0, 1) := by decide +kernel
theorem d_M_greatestEnd_20 : decode b_M_greatestEnd 20 = .ok (.getfield 77, 3) := by decide +kernel
theorem d_M_greatestEnd_23 : decode b_M_greatestEnd 23 = .ok (.iload_n 3, 1) := by decide +kernel
theorem d_M_greatestEnd_24 : decode b_M_greatestEnd 24 = .ok (.iaload, 1) := by decide +kernel
theorem d_M_greatestEnd_25 : decode b_M_greatestEnd 25 = .ok (.goto 4, 3) := by decide +kernel
theorem d_M_greatestEnd_28 : decode b_M_greatestEnd 28 = .ok (.iload_n 2, 1) := by decide +kernel
theorem d_M_greatestEnd_29 : decode b_M_greatestEnd 29 = .ok (.istore_n 2, 1) := by decide +kernel
theorem d_M_greatestEnd_30 : decode b_M_greatestEnd 30 = .ok (.iinc 3 1, 3) := by decide +kernel
theorem d_M_greatestEnd_33 : decode b_M_greatestEnd 33 = .ok (.goto (-29), 3) := by decide +kernel
theorem d_M_greatestEnd_36 : decode b_M_greatestEnd 36 = .ok (.iload_n 2, 1) := by decide +kernel
theorem d_M_greatestEnd_37 : decode b_M_greatestEnd 37 = .ok (.ireturn, 1) := by decide +kernel
theorem d_M_isBetter_0 : decode b_M_isBetter 0 = .ok (.aload_n 0, 1) := by decide +kernel
theorem d_M_isBetter_1 : decode b_M_isBetter 1 = .ok (.getfield 144, 3) := by decide +kernel
theorem d_M_isBetter_4 : decode b_M_isBetter 4 = .ok (.ifCond .ne 5, 3) := by decide +kernel
theorem d_M_isBetter_7 : decode b_M_isBetter 7 = .ok (.iconst 1, 1) := by decide +kernel
theorem d_M_isBetter_8 : decode b_M_isBetter 8 = .ok (.ireturn, 1) := by decide +kernel
theorem d_M_isBetter_9 : decode b_M_isBetter 9 = .ok (.aload_n 0, 1) := by decide +kernel
theorem d_M_isBetter_10 : decode b_M_isBetter 10 = .ok (.iload_n 1, 1) := by decide +kernel
theorem d_M_isBetter_11 : decode b_M_isBetter 11 = .ok (.invokevirtual 147, 3) := by decide +kernel
theorem d_M_isBetter_14 : decode b_M_isBetter 14 = .ok (.aload_n 0, 1) := by decide +kernel
theorem d_M_isBetter_15 : decode b_M_isBetter 15 = .ok (.getfield 150, 3) := by decide +kernel
theorem d_M_isBetter_18 : decode b_M_isBetter 18 = .ok (.if_icmp .ge 7, 3) := by decide +kernel
theorem d_M_isBetter_21 : decode b_M_isBetter 21 = .ok (.iconst 1, 1) := by decide +kernel
theorem d_M_isBetter_22 : decode b_M_isBetter 22 = .ok (.goto 4, 3) := by decide +kernel
theorem d_M_isBetter_25 : decode b_M_isBetter 25 = .ok (.iconst 0, 1) := by decide +kernel
theorem d_M_isBetter_26 : decode b_M_isBetter 26 = .ok (.istore_n 3, 1) := by decide +kernel
theorem d_M_isBetter_27 : decode b_M_isBetter 27 = .ok (.iload_n 2, 1) := by decide +kernel
theorem d_M_isBetter_28 : decode b_M_isBetter 28 = .ok (.ifCond .eq 11, 3) := by decide +kernel
theorem d_M_isBetter_31 : decode b_M_isBetter 31 = .ok (.aload_n 0, 1) := by decide +kernel
theorem d_M_isBetter_32 : decode b_M_isBetter 32 = .ok (.iload_n 1, 1) := by decide +kernel
theorem d_M_isBetter_33 : decode b_M_isBetter 33 = .ok (.invokevirtual 153, 3) := by decide +kernel
theorem d_M_isBetter_36 : decode b_M_isBetter 36 = .ok (.goto 4, 3) := by decide +kernel
theorem d_M_isBetter_39 : decode b_M_isBetter 39 = .ok (.iconst 0, 1) := by decide +kernel
theorem d_M_isBetter_40 : decode b_M_isBetter 40 = .ok (.istore 4, 2) := by decide +kernel
theorem d_M_isBetter_42 : decode b_M_isBetter 42 = .ok (.iload_n 2, 1) := by decide +kernel
theorem d_M_isBetter_43 : decode b_M_isBetter 43 = .ok (.ifCond .eq 33, 3) := by decide +kernel
theorem d_M_isBetter_46 : decode b_M_isBetter 46 = .ok (.iload 4, 2) := by decide +kernel
theorem d_M_isBetter_48 : decode b_M_isBetter 48 = .ok (.aload_n 0, 1) := by decide +kernel
theorem d_M_isBetter_49 : decode b_M_isBetter 49 = .ok (.getfield 156, 3) := by decide +kernel
theorem d_M_isBetter_52 : decode b_M_isBetter 52 = .ok (.if_icmp .lt 16, 3) := by decide +kernel
theorem d_M_isBetter_55 : decode b_M_isBetter 55 = .ok (.iload 4, 2) := by decide +kernel
theorem d_M_isBetter_57 : decode b_M_isBetter 57 = .ok (.aload_n 0, 1) := by decide +kernel
theorem d_M_isBetter_58 : decode b_M_isBetter 58 = .ok (.getfield 156, 3) := by decide +kernel
theorem d_M_isBetter_61 : decode b_M_isBetter 61 = .ok (.if_icmp .ne 11, 3) := by decide +kernel
theorem d_M_isBetter_64 : decode b_M_isBetter 64 = .ok (.iload_n 3, 1) := by decide +kernel
theorem d_M_isBetter_65 : decode b_M_isBetter 65 = .ok (.ifCond .eq 7, 3) := by decide +kernel
theorem d_M_isBetter_68 : decode b_M_isBetter 68 = .ok (.iconst 1, 1) := by decide +kernel
theorem d_M_isBetter_69 : decode b_M_isBetter 69 = .ok (.goto 8, 3) := by decide +kernel
theorem d_M_isBetter_72 : decode b_M_isBetter 72 = .ok (.iconst 0, 1) := by decide +kernel
theorem d_M_isBetter_73 : decode b_M_isBetter 73 = .ok (.goto 4, 3) := by decide +kernel
theorem d_M_isBetter_76 : decode b_M_isBetter 76 = .ok (.iload_n 3, 1) := by decide +kernel
theorem d_M_isBetter_77 : decode b_M_isBetter 77 = .ok (.ireturn, 1) := by decide +kernel
theorem d_M_goesOn_0 : decode b_M_goesOn 0 = .ok (.aload_n 0, 1) := by decide +kernel
theorem d_M_goesOn_1 : decode b_M_goesOn 1 = .ok (.getfield 62, 3) := by decide +kernel
theorem d_M_goesOn_4 : decode b_M_goesOn 4 = .ok (.iload_n 1, 1) := by decide +kernel
theorem d_M_goesOn_5 : decode b_M_goesOn 5 = .ok (.baload, 1) := by decide +kernel
theorem d_M_goesOn_6 : decode b_M_goesOn 6 = .ok (.ifCond .eq 12, 3) := by decide +kernel
theorem d_M_goesOn_9 : decode b_M_goesOn 9 = .ok (.aload_n 0, 1) := by decide +kernel
theorem d_M_goesOn_10 : decode b_M_goesOn 10 = .ok (.getfield 56, 3) := by decide +kernel
theorem d_M_goesOn_13 : decode b_M_goesOn 13 = .ok (.iload_n 1, 1) := by decide +kernel
theorem d_M_goesOn_14 : decode b_M_goesOn 14 = .ok (.iaload, 1) := by decide +kernel
theorem d_M_goesOn_15 : decode b_M_goesOn 15 = .ok (.goto 19, 3) := by decide +kernel
theorem d_M_goesOn_18 : decode b_M_goesOn 18 = .ok (.aload_n 0, 1) := by decide +kernel
theorem d_M_goesOn_19 : decode b_M_goesOn 19 = .ok (.getfield 25, 3) := by decide +kernel
theorem d_M_goesOn_22 : decode b_M_goesOn 22 = .ok (.iload_n 1, 1) := by decide +kernel
theorem d_M_goesOn_23 : decode b_M_goesOn 23 = .ok (.baload, 1) := by decide +kernel
theorem d_M_goesOn_24 : decode b_M_goesOn 24 = .ok (.ifCond .eq 9, 3) := by decide +kernel
theorem d_M_goesOn_27 : decode b_M_goesOn 27 = .ok (.iload_n 2, 1) := by decide +kernel
theorem d_M_goesOn_28 : decode b_M_goesOn 28 = .ok (.iconst 2, 1) := by decide +kernel
theorem d_M_goesOn_29 : decode b_M_goesOn 29 = .ok (.idiv, 1) := by decide +kernel
theorem d_M_goesOn_30 : decode b_M_goesOn 30 = .ok (.goto 4, 3) := by decide +kernel
theorem d_M_goesOn_33 : decode b_M_goesOn 33 = .ok (.iload_n 2, 1) := by decide +kernel
theorem d_M_goesOn_34 : decode b_M_goesOn 34 = .ok (.istore 4, 2) := by decide +kernel
theorem d_M_goesOn_36 : decode b_M_goesOn 36 = .ok (.aload_n 0, 1) := by decide +kernel
theorem d_M_goesOn_37 : decode b_M_goesOn 37 = .ok (.getfield 62, 3) := by decide +kernel
theorem d_M_goesOn_40 : decode b_M_goesOn 40 = .ok (.iload_n 1, 1) := by decide +kernel
theorem d_M_goesOn_41 : decode b_M_goesOn 41 = .ok (.baload, 1) := by decide +kernel
theorem d_M_goesOn_42 : decode b_M_goesOn 42 = .ok (.ifCond .eq 12, 3) := by decide +kernel
theorem d_M_goesOn_45 : decode b_M_goesOn 45 = .ok (.aload_n 0, 1) := by decide +kernel
theorem d_M_goesOn_46 : decode b_M_goesOn 46 = .ok (.getfield 59, 3) := by decide +kernel
theorem d_M_goesOn_49 : decode b_M_goesOn 49 = .ok (.iload_n 1, 1) := by decide +kernel
theorem d_M_goesOn_50 : decode b_M_goesOn 50 = .ok (.iaload, 1) := by decide +kernel
theorem d_M_goesOn_51 : decode b_M_goesOn 51 = .ok (.goto 19, 3) := by decide +kernel
theorem d_M_goesOn_54 : decode b_M_goesOn 54 = .ok (.aload_n 0, 1) := by decide +kernel
theorem d_M_goesOn_55 : decode b_M_goesOn 55 = .ok (.getfield 25, 3) := by decide +kernel
theorem d_M_goesOn_58 : decode b_M_goesOn 58 = .ok (.iload_n 1, 1) := by decide +kernel
theorem d_M_goesOn_59 : decode b_M_goesOn 59 = .ok (.baload, 1) := by decide +kernel
theorem d_M_goesOn_60 : decode b_M_goesOn 60 = .ok (.ifCond .eq 9, 3) := by decide +kernel
theorem d_M_goesOn_63 : decode b_M_goesOn 63 = .ok (.iload_n 2, 1) := by decide +kernel
theorem d_M_goesOn_64 : decode b_M_goesOn 64 = .ok (.iconst 2, 1) := by decide +kernel
theorem d_M_goesOn_65 : decode b_M_goesOn 65 = .ok (.irem, 1) := by decide +kernel
theorem d_M_goesOn_66 : decode b_M_goesOn 66 = .ok (.goto 4, 3) := by decide +kernel
theorem d_M_goesOn_69 : decode b_M_goesOn 69 = .ok (.iconst 0, 1) := by decide +kernel
theorem d_M_goesOn_70 : decode b_M_goesOn 70 = .ok (.istore 5, 2) := by decide +kernel
theorem d_M_goesOn_72 : decode b_M_goesOn 72 = .ok (.aload_n 0, 1) := by decide +kernel
theorem d_M_goesOn_73 : decode b_M_goesOn 73 = .ok (.iload 4, 2) := by decide +kernel
theorem d_M_goesOn_75 : decode b_M_goesOn 75 = .ok (.invokevirtual 123, 3) := by decide +kernel
theorem d_M_goesOn_78 : decode b_M_goesOn 78 = .ok (.ifCond .eq 5, 3) := by decide +kernel
theorem d_M_goesOn_81 : decode b_M_goesOn 81 = .ok (.iconst 0, 1) := by decide +kernel
theorem d_M_goesOn_82 : decode b_M_goesOn 82 = .ok (.ireturn, 1) := by decide +kernel
theorem d_M_goesOn_83 : decode b_M_goesOn 83 = .ok (.aload_n 0, 1) := by decide +kernel
theorem d_M_goesOn_84 : decode b_M_goesOn 84 = .ok (.iload_n 1, 1) := by decide +kernel
theorem d_M_goesOn_85 : decode b_M_goesOn 85 = .ok (.iload_n 1, 1) := by decide +kernel
theorem d_M_goesOn_86 : decode b_M_goesOn 86 = .ok (.iload 4, 2) := by decide +kernel
theorem d_M_goesOn_88 : decode b_M_goesOn 88 = .ok (.iload 5, 2) := by decide +kernel
theorem d_M_goesOn_90 : decode b_M_goesOn 90 = .ok (.invokevirtual 159, 3) := by decide +kernel
theorem d_M_goesOn_93 : decode b_M_goesOn 93 = .ok (.aload_n 0, 1) := by decide +kernel
theorem d_M_goesOn_94 : decode b_M_goesOn 94 = .ok (.iload_n 1, 1) := by decide +kernel
theorem d_M_goesOn_95 : decode b_M_goesOn 95 = .ok (.iload_n 1, 1) := by decide +kernel
theorem d_M_goesOn_96 : decode b_M_goesOn 96 = .ok (.iload_n 1, 1) := by decide +kernel
theorem d_M_goesOn_97 : decode b_M_goesOn 97 = .ok (.invokevirtual 163, 3) := by decide +kernel
theorem d_M_goesOn_100 : decode b_M_goesOn 100 = .ok (.ifCond .eq 18, 3) := by decide +kernel
theorem d_M_goesOn_103 : decode b_M_goesOn 103 = .ok (.aload_n 0, 1) := by decide +kernel
theorem d_M_goesOn_104 : decode b_M_goesOn 104 = .ok (.iload_n 1, 1) := by decide +kernel
theorem d_M_goesOn_105 : decode b_M_goesOn 105 = .ok (.iconst 1, 1) := by decide +kernel
theorem d_M_goesOn_106 : decode b_M_goesOn 106 = .ok (.iadd, 1) := by decide +kernel
theorem d_M_goesOn_107 : decode b_M_goesOn 107 = .ok (.iload_n 3, 1) := by decide +kernel
theorem d_M_goesOn_108 : decode b_M_goesOn 108 = .ok (.invokevirtual 166, 3) := by decide +kernel
theorem d_M_goesOn_111 : decode b_M_goesOn 111 = .ok (.ifCond .eq 7, 3) := by decide +kernel
theorem d_M_goesOn_114 : decode b_M_goesOn 114 = .ok (.iconst 1, 1) := by decide +kernel
theorem d_M_goesOn_115 : decode b_M_goesOn 115 = .ok (.goto 4, 3) := by decide +kernel
theorem d_M_goesOn_118 : decode b_M_goesOn 118 = .ok (.iconst 0, 1) := by decide +kernel
theorem d_M_goesOn_119 : decode b_M_goesOn 119 = .ok (.ireturn, 1) := by decide +kernel
theorem d_M_search_0 : decode b_M_search 0 = .ok (.aload_n 0, 1) := by decide +kernel
theorem d_M_search_1 : decode b_M_search 1 = .ok (.iconst 0, 1) := by decide +kernel
theorem d_M_search_2 : decode b_M_search 2 = .ok (.putfield 144, 3) := by decide +kernel
theorem d_M_search_5 : decode b_M_search 5 = .ok (.aload_n 0, 1) := by decide +kernel
theorem d_M_search_6 : decode b_M_search 6 = .ok (.iconst 0, 1) := by decide +kernel
theorem d_M_search_7 : decode b_M_search 7 = .ok (.putfield 170, 3) := by decide +kernel
theorem d_M_search_10 : decode b_M_search 10 = .ok (.iconst 0, 1) := by decide +kernel
theorem d_M_search_11 : decode b_M_search 11 = .ok (.istore_n 3, 1) := by decide +kernel
theorem d_M_search_12 : decode b_M_search 12 = .ok (.aload_n 0, 1) := by decide +kernel
theorem d_M_search_13 : decode b_M_search 13 = .ok (.getfield 86, 3) := by decide +kernel
theorem d_M_search_16 : decode b_M_search 16 = .ok (.iconst 0, 1) := by decide +kernel
theorem d_M_search_17 : decode b_M_search 17 = .ok (.iconst 0, 1) := by decide +kernel
theorem d_M_search_18 : decode b_M_search 18 = .ok (.iastore, 1) := by decide +kernel
theorem d_M_search_19 : decode b_M_search 19 = .ok (.iload_n 3, 1) := by decide +kernel
theorem d_M_search_20 : decode b_M_search 20 = .ok (.ifCond .lt 23, 3) := by decide +kernel
theorem d_M_search_23 : decode b_M_search 23 = .ok (.aload_n 0, 1) := by decide +kernel
theorem d_M_search_24 : decode b_M_search 24 = .ok (.getfield 86, 3) := by decide +kernel
theorem d_M_search_27 : decode b_M_search 27 = .ok (.iload_n 3, 1) := by decide +kernel
theorem d_M_search_28 : decode b_M_search 28 = .ok (.iaload, 1) := by decide +kernel
theorem d_M_search_29 : decode b_M_search 29 = .ok (.aload_n 0, 1) := by decide +kernel
theorem d_M_search_30 : decode b_M_search 30 = .ok (.iload_n 3, 1) := by decide +kernel
theorem d_M_search_31 : decode b_M_search 31 = .ok (.invokevirtual 173, 3) := by decide +kernel
theorem d_M_search_34 : decode b_M_search 34 = .ok (.if_icmp .ne 9, 3) := by decide +kernel
theorem d_M_search_37 : decode b_M_search 37 = .ok (.iinc 3 (-1), 3) := by decide +kernel
theorem d_M_search_40 : decode b_M_search 40 = .ok (.goto (-21), 3) := by decide +kernel
theorem d_M_search_43 : decode b_M_search 43 = .ok (.iload_n 3, 1) := by decide +kernel
theorem d_M_search_44 : decode b_M_search 44 = .ok (.ifCond .lt 183, 3) := by decide +kernel
theorem d_M_search_47 : decode b_M_search 47 = .ok (.aload_n 0, 1) := by decide +kernel
theorem d_M_search_48 : decode b_M_search 48 = .ok (.getfield 170, 3) := by decide +kernel
theorem d_M_search_51 : decode b_M_search 51 = .ok (.iload_n 1, 1) := by decide +kernel
theorem d_M_search_52 : decode b_M_search 52 = .ok (.if_icmp .ge 175, 3) := by decide +kernel
theorem d_M_search_55 : decode b_M_search 55 = .ok (.aload_n 0, 1) := by decide +kernel
theorem d_M_search_56 : decode b_M_search 56 = .ok (.getfield 86, 3) := by decide +kernel
theorem d_M_search_59 : decode b_M_search 59 = .ok (.iload_n 3, 1) := by decide +kernel
theorem d_M_search_60 : decode b_M_search 60 = .ok (.iaload, 1) := by decide +kernel
theorem d_M_search_61 : decode b_M_search 61 = .ok (.istore 4, 2) := by decide +kernel
theorem d_M_search_63 : decode b_M_search 63 = .ok (.aload_n 0, 1) := by decide +kernel
theorem d_M_search_64 : decode b_M_search 64 = .ok (.getfield 86, 3) := by decide +kernel
theorem d_M_search_67 : decode b_M_search 67 = .ok (.iload_n 3, 1) := by decide +kernel
theorem d_M_search_68 : decode b_M_search 68 = .ok (.dup2, 1) := by decide +kernel
theorem d_M_search_69 : decode b_M_search 69 = .ok (.iaload, 1) := by decide +kernel
theorem d_M_search_70 : decode b_M_search 70 = .ok (.iconst 1, 1) := by decide +kernel
theorem d_M_search_71 : decode b_M_search 71 = .ok (.iadd, 1) := by decide +kernel
theorem d_M_search_72 : decode b_M_search 72 = .ok (.iastore, 1) := by decide +kernel
theorem d_M_search_73 : decode b_M_search 73 = .ok (.aload_n 0, 1) := by decide +kernel
theorem d_M_search_74 : decode b_M_search 74 = .ok (.dup, 1) := by decide +kernel
theorem d_M_search_75 : decode b_M_search 75 = .ok (.getfield 170, 3) := by decide +kernel
theorem d_M_search_78 : decode b_M_search 78 = .ok (.iconst 1, 1) := by decide +kernel
theorem d_M_search_79 : decode b_M_search 79 = .ok (.iadd, 1) := by decide +kernel
theorem d_M_search_80 : decode b_M_search 80 = .ok (.putfield 170, 3) := by decide +kernel
theorem d_M_search_83 : decode b_M_search 83 = .ok (.aload_n 0, 1) := by decide +kernel
theorem d_M_search_84 : decode b_M_search 84 = .ok (.iload_n 3, 1) := by decide +kernel
theorem d_M_search_85 : decode b_M_search 85 = .ok (.iload 4, 2) := by decide +kernel
theorem d_M_search_87 : decode b_M_search 87 = .ok (.iload_n 2, 1) := by decide +kernel
theorem d_M_search_88 : decode b_M_search 88 = .ok (.invokevirtual 176, 3) := by decide +kernel
theorem d_M_search_91 : decode b_M_search 91 = .ok (.ifCond .eq 109, 3) := by decide +kernel
theorem d_M_search_94 : decode b_M_search 94 = .ok (.iload_n 3, 1) := by decide +kernel
theorem d_M_search_95 : decode b_M_search 95 = .ok (.aload_n 0, 1) := by decide +kernel
theorem d_M_search_96 : decode b_M_search 96 = .ok (.getfield 95, 3) := by decide +kernel
theorem d_M_search_99 : decode b_M_search 99 = .ok (.iconst 1, 1) := by decide +kernel
theorem d_M_search_100 : decode b_M_search 100 = .ok (.isub, 1) := by decide +kernel
theorem d_M_search_101 : decode b_M_search 101 = .ok (.if_icmp .ne 89, 3) := by decide +kernel
theorem d_M_search_104 : decode b_M_search 104 = .ok (.aload_n 0, 1) := by decide +kernel
theorem d_M_search_105 : decode b_M_search 105 = .ok (.iconst 1, 1) := by decide +kernel
theorem d_M_search_106 : decode b_M_search 106 = .ok (.putfield 144, 3) := by decide +kernel
theorem d_M_search_109 : decode b_M_search 109 = .ok (.aload_n 0, 1) := by decide +kernel
theorem d_M_search_110 : decode b_M_search 110 = .ok (.aload_n 0, 1) := by decide +kernel
theorem d_M_search_111 : decode b_M_search 111 = .ok (.aload_n 0, 1) := by decide +kernel
theorem d_M_search_112 : decode b_M_search 112 = .ok (.getfield 95, 3) := by decide +kernel
theorem d_M_search_115 : decode b_M_search 115 = .ok (.invokevirtual 147, 3) := by decide +kernel
theorem d_M_search_118 : decode b_M_search 118 = .ok (.putfield 150, 3) := by decide +kernel
theorem d_M_search_121 : decode b_M_search 121 = .ok (.aload_n 0, 1) := by decide +kernel
theorem d_M_search_122 : decode b_M_search 122 = .ok (.iload_n 2, 1) := by decide +kernel
theorem d_M_search_123 : decode b_M_search 123 = .ok (.ifCond .eq 14, 3) := by decide +kernel
theorem d_M_search_126 : decode b_M_search 126 = .ok (.aload_n 0, 1) := by decide +kernel
theorem d_M_search_127 : decode b_M_search 127 = .ok (.aload_n 0, 1) := by decide +kernel
theorem d_M_search_128 : decode b_M_search 128 = .ok (.getfield 95, 3) := by decide +kernel
theorem d_M_search_131 : decode b_M_search 131 = .ok (.invokevirtual 153, 3) := by decide +kernel
theorem d_M_search_134 : decode b_M_search 134 = .ok (.goto 4, 3) := by decide +kernel
theorem d_M_search_137 : decode b_M_search 137 = .ok (.iconst 0, 1) := by decide +kernel
theorem d_M_search_138 : decode b_M_search 138 = .ok (.putfield 156, 3) := by decide +kernel
theorem d_M_search_141 : decode b_M_search 141 = .ok (.iconst 0, 1) := by decide +kernel
theorem d_M_search_142 : decode b_M_search 142 = .ok (.istore 5, 2) := by decide +kernel
theorem d_M_search_144 : decode b_M_search 144 = .ok (.iload 5, 2) := by decide +kernel
theorem d_M_search_146 : decode b_M_search 146 = .ok (.aload_n 0, 1) := by decide +kernel
theorem d_M_search_147 : decode b_M_search 147 = .ok (.getfield 95, 3) := by decide +kernel
theorem d_M_search_150 : decode b_M_search 150 = .ok (.if_icmp .ge 37, 3) := by decide +kernel
theorem d_M_search_153 : decode b_M_search 153 = .ok (.aload_n 0, 1) := by decide +kernel
theorem d_M_search_154 : decode b_M_search 154 = .ok (.getfield 89, 3) := by decide +kernel
theorem d_M_search_157 : decode b_M_search 157 = .ok (.iload 5, 2) := by decide +kernel
theorem d_M_search_159 : decode b_M_search 159 = .ok (.aload_n 0, 1) := by decide +kernel
theorem d_M_search_160 : decode b_M_search 160 = .ok (.getfield 71, 3) := by decide +kernel
theorem d_M_search_163 : decode b_M_search 163 = .ok (.iload 5, 2) := by decide +kernel
theorem d_M_search_165 : decode b_M_search 165 = .ok (.iaload, 1) := by decide +kernel
theorem d_M_search_166 : decode b_M_search 166 = .ok (.iastore, 1) := by decide +kernel
theorem d_M_search_167 : decode b_M_search 167 = .ok (.aload_n 0, 1) := by decide +kernel
theorem d_M_search_168 : decode b_M_search 168 = .ok (.getfield 92, 3) := by decide +kernel
theorem d_M_search_171 : decode b_M_search 171 = .ok (.iload 5, 2) := by decide +kernel
theorem d_M_search_173 : decode b_M_search 173 = .ok (.aload_n 0, 1) := by decide +kernel
theorem d_M_search_174 : decode b_M_search 174 = .ok (.getfield 74, 3) := by decide +kernel
theorem d_M_search_177 : decode b_M_search 177 = .ok (.iload 5, 2) := by decide +kernel
theorem d_M_search_179 : decode b_M_search 179 = .ok (.iaload, 1) := by decide +kernel
theorem d_M_search_180 : decode b_M_search 180 = .ok (.iastore, 1) := by decide +kernel
theorem d_M_search_181 : decode b_M_search 181 = .ok (.iinc 5 1, 3) := by decide +kernel
theorem d_M_search_184 : decode b_M_search 184 = .ok (.goto (-40), 3) := by decide +kernel
theorem d_M_search_187 : decode b_M_search 187 = .ok (.goto 13, 3) := by decide +kernel
theorem d_M_search_190 : decode b_M_search 190 = .ok (.iinc 3 1, 3) := by decide +kernel
theorem d_M_search_193 : decode b_M_search 193 = .ok (.aload_n 0, 1) := by decide +kernel
theorem d_M_search_194 : decode b_M_search 194 = .ok (.getfield 86, 3) := by decide +kernel
theorem d_M_search_197 : decode b_M_search 197 = .ok (.iload_n 3, 1) := by decide +kernel
theorem d_M_search_198 : decode b_M_search 198 = .ok (.iconst 0, 1) := by decide +kernel
theorem d_M_search_199 : decode b_M_search 199 = .ok (.iastore, 1) := by decide +kernel
theorem d_M_search_200 : decode b_M_search 200 = .ok (.iload_n 3, 1) := by decide +kernel
theorem d_M_search_201 : decode b_M_search 201 = .ok (.ifCond .lt 23, 3) := by decide +kernel
theorem d_M_search_204 : decode b_M_search 204 = .ok (.aload_n 0, 1) := by decide +kernel
theorem d_M_search_205 : decode b_M_search 205 = .ok (.getfield 86, 3) := by decide +kernel
theorem d_M_search_208 : decode b_M_search 208 = .ok (.iload_n 3, 1) := by decide +kernel
theorem d_M_search_209 : decode b_M_search 209 = .ok (.iaload, 1) := by decide +kernel
theorem d_M_search_210 : decode b_M_search 210 = .ok (.aload_n 0, 1) := by decide +kernel
theorem d_M_search_211 : decode b_M_search 211 = .ok (.iload_n 3, 1) := by decide +kernel
theorem d_M_search_212 : decode b_M_search 212 = .ok (.invokevirtual 173, 3) := by decide +kernel
theorem d_M_search_215 : decode b_M_search 215 = .ok (.if_icmp .ne 9, 3) := by decide +kernel
theorem d_M_search_218 : decode b_M_search 218 = .ok (.iinc 3 (-1), 3) := by decide +kernel
theorem d_M_search_221 : decode b_M_search 221 = .ok (.goto (-21), 3) := by decide +kernel
theorem d_M_search_224 : decode b_M_search 224 = .ok (.goto (-181), 3) := by decide +kernel
theorem d_M_search_227 : decode b_M_search 227 = .ok (.aload_n 0, 1) := by decide +kernel
theorem d_M_search_228 : decode b_M_search 228 = .ok (.iload_n 3, 1) := by decide +kernel
theorem d_M_search_229 : decode b_M_search 229 = .ok (.ifCond .ge 7, 3) := by decide +kernel
theorem d_M_search_232 : decode b_M_search 232 = .ok (.iconst 1, 1) := by decide +kernel
theorem d_M_search_233 : decode b_M_search 233 = .ok (.goto 4, 3) := by decide +kernel
theorem d_M_search_236 : decode b_M_search 236 = .ok (.iconst 0, 1) := by decide +kernel
theorem d_M_search_237 : decode b_M_search 237 = .ok (.putfield 180, 3) := by decide +kernel
theorem d_M_search_240 : decode b_M_search 240 = .ok (.return_, 1) := by decide +kernel
theorem d_M_take_0 : decode b_M_take 0 = .ok (.iconst 0, 1) := by decide +kernel
theorem d_M_take_1 : decode b_M_take 1 = .ok (.istore_n 2, 1) := by decide +kernel
theorem d_M_take_2 : decode b_M_take 2 = .ok (.iload_n 2, 1) := by decide +kernel
theorem d_M_take_3 : decode b_M_take 3 = .ok (.aload_n 0, 1) := by decide +kernel
theorem d_M_take_4 : decode b_M_take 4 = .ok (.getfield 95, 3) := by decide +kernel
theorem d_M_take_7 : decode b_M_take 7 = .ok (.if_icmp .ge 54, 3) := by decide +kernel
theorem d_M_take_10 : decode b_M_take 10 = .ok (.aload_n 0, 1) := by decide +kernel
theorem d_M_take_11 : decode b_M_take 11 = .ok (.getfield 68, 3) := by decide +kernel
theorem d_M_take_14 : decode b_M_take 14 = .ok (.iload_n 2, 1) := by decide +kernel
theorem d_M_take_15 : decode b_M_take 15 = .ok (.iload_n 1, 1) := by decide +kernel
theorem d_M_take_16 : decode b_M_take 16 = .ok (.ifCond .eq 37, 3) := by decide +kernel
theorem d_M_take_19 : decode b_M_take 19 = .ok (.aload_n 0, 1) := by decide +kernel
theorem d_M_take_20 : decode b_M_take 20 = .ok (.getfield 89, 3) := by decide +kernel
theorem d_M_take_23 : decode b_M_take 23 = .ok (.iload_n 2, 1) := by decide +kernel
theorem d_M_take_24 : decode b_M_take 24 = .ok (.iaload, 1) := by decide +kernel
theorem d_M_take_25 : decode b_M_take 25 = .ok (.aload_n 0, 1) := by decide +kernel
theorem d_M_take_26 : decode b_M_take 26 = .ok (.getfield 56, 3) := by decide +kernel
theorem d_M_take_29 : decode b_M_take 29 = .ok (.iload_n 2, 1) := by decide +kernel
theorem d_M_take_30 : decode b_M_take 30 = .ok (.iaload, 1) := by decide +kernel
theorem d_M_take_31 : decode b_M_take 31 = .ok (.if_icmp .ne 18, 3) := by decide +kernel
theorem d_M_take_34 : decode b_M_take 34 = .ok (.aload_n 0, 1) := by decide +kernel
theorem d_M_take_35 : decode b_M_take 35 = .ok (.getfield 92, 3) := by decide +kernel
theorem d_M_take_38 : decode b_M_take 38 = .ok (.iload_n 2, 1) := by decide +kernel
theorem d_M_take_39 : decode b_M_take 39 = .ok (.iaload, 1) := by decide +kernel
theorem d_M_take_40 : decode b_M_take 40 = .ok (.aload_n 0, 1) := by decide +kernel
theorem d_M_take_41 : decode b_M_take 41 = .ok (.getfield 59, 3) := by decide +kernel
theorem d_M_take_44 : decode b_M_take 44 = .ok (.iload_n 2, 1) := by decide +kernel
theorem d_M_take_45 : decode b_M_take 45 = .ok (.iaload, 1) := by decide +kernel
theorem d_M_take_46 : decode b_M_take 46 = .ok (.if_icmp .eq 7, 3) := by decide +kernel
theorem d_M_take_49 : decode b_M_take 49 = .ok (.iconst 1, 1) := by decide +kernel
theorem d_M_take_50 : decode b_M_take 50 = .ok (.goto 4, 3) := by decide +kernel
theorem d_M_take_53 : decode b_M_take 53 = .ok (.iconst 0, 1) := by decide +kernel
theorem d_M_take_54 : decode b_M_take 54 = .ok (.bastore, 1) := by decide +kernel
theorem d_M_take_55 : decode b_M_take 55 = .ok (.iinc 2 1, 3) := by decide +kernel
theorem d_M_take_58 : decode b_M_take 58 = .ok (.goto (-56), 3) := by decide +kernel
theorem d_M_take_61 : decode b_M_take 61 = .ok (.iconst 0, 1) := by decide +kernel
theorem d_M_take_62 : decode b_M_take 62 = .ok (.istore_n 2, 1) := by decide +kernel
theorem d_M_take_63 : decode b_M_take 63 = .ok (.iload_n 2, 1) := by decide +kernel
theorem d_M_take_64 : decode b_M_take 64 = .ok (.aload_n 0, 1) := by decide +kernel
theorem d_M_take_65 : decode b_M_take 65 = .ok (.getfield 95, 3) := by decide +kernel
theorem d_M_take_68 : decode b_M_take 68 = .ok (.if_icmp .ge 33, 3) := by decide +kernel
theorem d_M_take_71 : decode b_M_take 71 = .ok (.aload_n 0, 1) := by decide +kernel
theorem d_M_take_72 : decode b_M_take 72 = .ok (.getfield 56, 3) := by decide +kernel
theorem d_M_take_75 : decode b_M_take 75 = .ok (.iload_n 2, 1) := by decide +kernel
theorem d_M_take_76 : decode b_M_take 76 = .ok (.aload_n 0, 1) := by decide +kernel
theorem d_M_take_77 : decode b_M_take 77 = .ok (.getfield 89, 3) := by decide +kernel
theorem d_M_take_80 : decode b_M_take 80 = .ok (.iload_n 2, 1) := by decide +kernel
theorem d_M_take_81 : decode b_M_take 81 = .ok (.iaload, 1) := by decide +kernel
theorem d_M_take_82 : decode b_M_take 82 = .ok (.iastore, 1) := by decide +kernel
theorem d_M_take_83 : decode b_M_take 83 = .ok (.aload_n 0, 1) := by decide +kernel
theorem d_M_take_84 : decode b_M_take 84 = .ok (.getfield 59, 3) := by decide +kernel
theorem d_M_take_87 : decode b_M_take 87 = .ok (.iload_n 2, 1) := by decide +kernel
theorem d_M_take_88 : decode b_M_take 88 = .ok (.aload_n 0, 1) := by decide +kernel
theorem d_M_take_89 : decode b_M_take 89 = .ok (.getfield 92, 3) := by decide +kernel
theorem d_M_take_92 : decode b_M_take 92 = .ok (.iload_n 2, 1) := by decide +kernel
theorem d_M_take_93 : decode b_M_take 93 = .ok (.iaload, 1) := by decide +kernel
theorem d_M_take_94 : decode b_M_take 94 = .ok (.iastore, 1) := by decide +kernel
theorem d_M_take_95 : decode b_M_take 95 = .ok (.iinc 2 1, 3) := by decide +kernel
theorem d_M_take_98 : decode b_M_take 98 = .ok (.goto (-35), 3) := by decide +kernel
theorem d_M_take_101 : decode b_M_take 101 = .ok (.aload_n 0, 1) := by decide +kernel
theorem d_M_take_102 : decode b_M_take 102 = .ok (.iconst 1, 1) := by decide +kernel
theorem d_M_take_103 : decode b_M_take 103 = .ok (.putfield 99, 3) := by decide +kernel
theorem d_M_take_106 : decode b_M_take 106 = .ok (.return_, 1) := by decide +kernel
theorem d_M_run_0 : decode b_M_run 0 = .ok (.iload_n 1, 1) := by decide +kernel
theorem d_M_run_1 : decode b_M_run 1 = .ok (.iconst 1, 1) := by decide +kernel
theorem d_M_run_2 : decode b_M_run 2 = .ok (.sipush 20000, 3) := by decide +kernel
theorem d_M_run_5 : decode b_M_run 5 = .ok (.invokestatic 103, 3) := by decide +kernel
theorem d_M_run_8 : decode b_M_run 8 = .ok (.ifCond .eq 10, 3) := by decide +kernel
theorem d_M_run_11 : decode b_M_run 11 = .ok (.aload_n 0, 1) := by decide +kernel
theorem d_M_run_12 : decode b_M_run 12 = .ok (.getfield 95, 3) := by decide +kernel
theorem d_M_run_15 : decode b_M_run 15 = .ok (.ifCond .ne 5, 3) := by decide +kernel
theorem d_M_run_18 : decode b_M_run 18 = .ok (.iconst (-1), 1) := by decide +kernel
theorem d_M_run_19 : decode b_M_run 19 = .ok (.ireturn, 1) := by decide +kernel
theorem d_M_run_20 : decode b_M_run 20 = .ok (.aload_n 0, 1) := by decide +kernel
theorem d_M_run_21 : decode b_M_run 21 = .ok (.iload_n 1, 1) := by decide +kernel
theorem d_M_run_22 : decode b_M_run 22 = .ok (.iconst 0, 1) := by decide +kernel
theorem d_M_run_23 : decode b_M_run 23 = .ok (.invokevirtual 183, 3) := by decide +kernel
theorem d_M_run_26 : decode b_M_run 26 = .ok (.aload_n 0, 1) := by decide +kernel
theorem d_M_run_27 : decode b_M_run 27 = .ok (.getfield 144, 3) := by decide +kernel
theorem d_M_run_30 : decode b_M_run 30 = .ok (.ifCond .ne 5, 3) := by decide +kernel
theorem d_M_run_33 : decode b_M_run 33 = .ok (.iconst (-1), 1) := by decide +kernel
theorem d_M_run_34 : decode b_M_run 34 = .ok (.ireturn, 1) := by decide +kernel
theorem d_M_run_35 : decode b_M_run 35 = .ok (.aload_n 0, 1) := by decide +kernel
theorem d_M_run_36 : decode b_M_run 36 = .ok (.iconst 0, 1) := by decide +kernel
theorem d_M_run_37 : decode b_M_run 37 = .ok (.invokevirtual 187, 3) := by decide +kernel
theorem d_M_run_40 : decode b_M_run 40 = .ok (.aload_n 0, 1) := by decide +kernel
theorem d_M_run_41 : decode b_M_run 41 = .ok (.getfield 150, 3) := by decide +kernel
theorem d_M_run_44 : decode b_M_run 44 = .ok (.ireturn, 1) := by decide +kernel
theorem d_M_replan_0 : decode b_M_replan 0 = .ok (.iload_n 1, 1) := by decide +kernel
theorem d_M_replan_1 : decode b_M_replan 1 = .ok (.iconst 1, 1) := by decide +kernel
theorem d_M_replan_2 : decode b_M_replan 2 = .ok (.sipush 20000, 3) := by decide +kernel
theorem d_M_replan_5 : decode b_M_replan 5 = .ok (.invokestatic 103, 3) := by decide +kernel
theorem d_M_replan_8 : decode b_M_replan 8 = .ok (.ifCond .eq 10, 3) := by decide +kernel
theorem d_M_replan_11 : decode b_M_replan 11 = .ok (.aload_n 0, 1) := by decide +kernel
theorem d_M_replan_12 : decode b_M_replan 12 = .ok (.getfield 99, 3) := by decide +kernel
theorem d_M_replan_15 : decode b_M_replan 15 = .ok (.ifCond .ne 5, 3) := by decide +kernel
theorem d_M_replan_18 : decode b_M_replan 18 = .ok (.iconst (-1), 1) := by decide +kernel
theorem d_M_replan_19 : decode b_M_replan 19 = .ok (.ireturn, 1) := by decide +kernel
theorem d_M_replan_20 : decode b_M_replan 20 = .ok (.aload_n 0, 1) := by decide +kernel
theorem d_M_replan_21 : decode b_M_replan 21 = .ok (.iload_n 1, 1) := by decide +kernel
theorem d_M_replan_22 : decode b_M_replan 22 = .ok (.iconst 1, 1) := by decide +kernel
theorem d_M_replan_23 : decode b_M_replan 23 = .ok (.invokevirtual 183, 3) := by decide +kernel
theorem d_M_replan_26 : decode b_M_replan 26 = .ok (.aload_n 0, 1) := by decide +kernel
theorem d_M_replan_27 : decode b_M_replan 27 = .ok (.getfield 144, 3) := by decide +kernel
theorem d_M_replan_30 : decode b_M_replan 30 = .ok (.ifCond .ne 5, 3) := by decide +kernel
theorem d_M_replan_33 : decode b_M_replan 33 = .ok (.iconst (-1), 1) := by decide +kernel
theorem d_M_replan_34 : decode b_M_replan 34 = .ok (.ireturn, 1) := by decide +kernel
theorem d_M_replan_35 : decode b_M_replan 35 = .ok (.aload_n 0, 1) := by decide +kernel
theorem d_M_replan_36 : decode b_M_replan 36 = .ok (.iconst 1, 1) := by decide +kernel
theorem d_M_replan_37 : decode b_M_replan 37 = .ok (.invokevirtual 187, 3) := by decide +kernel
theorem d_M_replan_40 : decode b_M_replan 40 = .ok (.aload_n 0, 1) := by decide +kernel
theorem d_M_replan_41 : decode b_M_replan 41 = .ok (.getfield 156, 3) := by decide +kernel
theorem d_M_replan_44 : decode b_M_replan 44 = .ok (.ireturn, 1) := by decide +kernel
theorem d_M_proved_0 : decode b_M_proved 0 = .ok (.aload_n 0, 1) := by decide +kernel
theorem d_M_proved_1 : decode b_M_proved 1 = .ok (.getfield 180, 3) := by decide +kernel
theorem d_M_proved_4 : decode b_M_proved 4 = .ok (.ireturn, 1) := by decide +kernel
theorem d_M_tried_0 : decode b_M_tried 0 = .ok (.aload_n 0, 1) := by decide +kernel
theorem d_M_tried_1 : decode b_M_tried 1 = .ok (.getfield 170, 3) := by decide +kernel
theorem d_M_tried_4 : decode b_M_tried 4 = .ok (.ireturn, 1) := by decide +kernel
theorem d_M_layPlan_0 : decode b_M_layPlan 0 = .ok (.iconst 0, 1) := by decide +kernel
theorem d_M_layPlan_1 : decode b_M_layPlan 1 = .ok (.istore_n 1, 1) := by decide +kernel
theorem d_M_layPlan_2 : decode b_M_layPlan 2 = .ok (.iload_n 1, 1) := by decide +kernel
theorem d_M_layPlan_3 : decode b_M_layPlan 3 = .ok (.aload_n 0, 1) := by decide +kernel
theorem d_M_layPlan_4 : decode b_M_layPlan 4 = .ok (.getfield 95, 3) := by decide +kernel
theorem d_M_layPlan_7 : decode b_M_layPlan 7 = .ok (.if_icmp .ge 27, 3) := by decide +kernel
theorem d_M_layPlan_10 : decode b_M_layPlan 10 = .ok (.aload_n 0, 1) := by decide +kernel
theorem d_M_layPlan_11 : decode b_M_layPlan 11 = .ok (.iload_n 1, 1) := by decide +kernel
theorem d_M_layPlan_12 : decode b_M_layPlan 12 = .ok (.iload_n 1, 1) := by decide +kernel
theorem d_M_layPlan_13 : decode b_M_layPlan 13 = .ok (.aload_n 0, 1) := by decide +kernel
theorem d_M_layPlan_14 : decode b_M_layPlan 14 = .ok (.getfield 56, 3) := by decide +kernel
theorem d_M_layPlan_17 : decode b_M_layPlan 17 = .ok (.iload_n 1, 1) := by decide +kernel
theorem d_M_layPlan_18 : decode b_M_layPlan 18 = .ok (.iaload, 1) := by decide +kernel
theorem d_M_layPlan_19 : decode b_M_layPlan 19 = .ok (.aload_n 0, 1) := by decide +kernel
theorem d_M_layPlan_20 : decode b_M_layPlan 20 = .ok (.getfield 59, 3) := by decide +kernel
theorem d_M_layPlan_23 : decode b_M_layPlan 23 = .ok (.iload_n 1, 1) := by decide +kernel
theorem d_M_layPlan_24 : decode b_M_layPlan 24 = .ok (.iaload, 1) := by decide +kernel
theorem d_M_layPlan_25 : decode b_M_layPlan 25 = .ok (.invokevirtual 159, 3) := by decide +kernel
theorem d_M_layPlan_28 : decode b_M_layPlan 28 = .ok (.iinc 1 1, 3) := by decide +kernel
theorem d_M_layPlan_31 : decode b_M_layPlan 31 = .ok (.goto (-29), 3) := by decide +kernel
theorem d_M_layPlan_34 : decode b_M_layPlan 34 = .ok (.return_, 1) := by decide +kernel
theorem d_M_told_0 : decode b_M_told 0 = .ok (.aload_n 0, 1) := by decide +kernel
theorem d_M_told_1 : decode b_M_told 1 = .ok (.getfield 99, 3) := by decide +kernel
theorem d_M_told_4 : decode b_M_told 4 = .ok (.ifCond .eq 20, 3) := by decide +kernel
theorem d_M_told_7 : decode b_M_told 7 = .ok (.aload_n 0, 1) := by decide +kernel
theorem d_M_told_8 : decode b_M_told 8 = .ok (.iload_n 1, 1) := by decide +kernel
theorem d_M_told_9 : decode b_M_told 9 = .ok (.invokevirtual 113, 3) := by decide +kernel
theorem d_M_told_12 : decode b_M_told 12 = .ok (.ifCond .eq 12, 3) := by decide +kernel
theorem d_M_told_15 : decode b_M_told 15 = .ok (.iload_n 2, 1) := by decide +kernel
theorem d_M_told_16 : decode b_M_told 16 = .ok (.iconst 0, 1) := by decide +kernel
theorem d_M_told_17 : decode b_M_told 17 = .ok (.iconst 2, 1) := by decide +kernel
theorem d_M_told_18 : decode b_M_told 18 = .ok (.invokestatic 103, 3) := by decide +kernel
theorem d_M_told_21 : decode b_M_told 21 = .ok (.ifCond .ne 5, 3) := by decide +kernel
theorem d_M_told_24 : decode b_M_told 24 = .ok (.iconst (-1), 1) := by decide +kernel
theorem d_M_told_25 : decode b_M_told 25 = .ok (.ireturn, 1) := by decide +kernel
theorem d_M_told_26 : decode b_M_told 26 = .ok (.aload_n 0, 1) := by decide +kernel
theorem d_M_told_27 : decode b_M_told 27 = .ok (.invokevirtual 191, 3) := by decide +kernel
theorem d_M_told_30 : decode b_M_told 30 = .ok (.iload_n 2, 1) := by decide +kernel
theorem d_M_told_31 : decode b_M_told 31 = .ok (.ifCond .ne 12, 3) := by decide +kernel
theorem d_M_told_34 : decode b_M_told 34 = .ok (.aload_n 0, 1) := by decide +kernel
theorem d_M_told_35 : decode b_M_told 35 = .ok (.getfield 56, 3) := by decide +kernel
theorem d_M_told_38 : decode b_M_told 38 = .ok (.iload_n 1, 1) := by decide +kernel
theorem d_M_told_39 : decode b_M_told 39 = .ok (.iaload, 1) := by decide +kernel
theorem d_M_told_40 : decode b_M_told 40 = .ok (.goto 23, 3) := by decide +kernel
theorem d_M_told_43 : decode b_M_told 43 = .ok (.iload_n 2, 1) := by decide +kernel
theorem d_M_told_44 : decode b_M_told 44 = .ok (.iconst 1, 1) := by decide +kernel
theorem d_M_told_45 : decode b_M_told 45 = .ok (.if_icmp .ne 12, 3) := by decide +kernel
theorem d_M_told_48 : decode b_M_told 48 = .ok (.aload_n 0, 1) := by decide +kernel
theorem d_M_told_49 : decode b_M_told 49 = .ok (.getfield 77, 3) := by decide +kernel
theorem d_M_told_52 : decode b_M_told 52 = .ok (.iload_n 1, 1) := by decide +kernel
theorem d_M_told_53 : decode b_M_told 53 = .ok (.iaload, 1) := by decide +kernel
theorem d_M_told_54 : decode b_M_told 54 = .ok (.goto 9, 3) := by decide +kernel
theorem d_M_told_57 : decode b_M_told 57 = .ok (.aload_n 0, 1) := by decide +kernel
theorem d_M_told_58 : decode b_M_told 58 = .ok (.getfield 59, 3) := by decide +kernel
theorem d_M_told_61 : decode b_M_told 61 = .ok (.iload_n 1, 1) := by decide +kernel
theorem d_M_told_62 : decode b_M_told 62 = .ok (.iaload, 1) := by decide +kernel
theorem d_M_told_63 : decode b_M_told 63 = .ok (.ireturn, 1) := by decide +kernel
theorem d_M_at_0 : decode b_M_at 0 = .ok (.aload_n 0, 1) := by decide +kernel
theorem d_M_at_1 : decode b_M_at 1 = .ok (.getfield 99, 3) := by decide +kernel
theorem d_M_at_4 : decode b_M_at 4 = .ok (.ifCond .eq 15, 3) := by decide +kernel
theorem d_M_at_7 : decode b_M_at 7 = .ok (.aload_n 0, 1) := by decide +kernel
theorem d_M_at_8 : decode b_M_at 8 = .ok (.iload_n 1, 1) := by decide +kernel
theorem d_M_at_9 : decode b_M_at 9 = .ok (.invokevirtual 113, 3) := by decide +kernel
theorem d_M_at_12 : decode b_M_at 12 = .ok (.ifCond .eq 7, 3) := by decide +kernel
theorem d_M_at_15 : decode b_M_at 15 = .ok (.iload_n 2, 1) := by decide +kernel
theorem d_M_at_16 : decode b_M_at 16 = .ok (.ifCond .ge 5, 3) := by decide +kernel
theorem d_M_at_19 : decode b_M_at 19 = .ok (.iconst (-1), 1) := by decide +kernel
theorem d_M_at_20 : decode b_M_at 20 = .ok (.ireturn, 1) := by decide +kernel
theorem d_M_at_21 : decode b_M_at 21 = .ok (.aload_n 0, 1) := by decide +kernel
theorem d_M_at_22 : decode b_M_at 22 = .ok (.getfield 19, 3) := by decide +kernel
theorem d_M_at_25 : decode b_M_at 25 = .ok (.iload_n 1, 1) := by decide +kernel
theorem d_M_at_26 : decode b_M_at 26 = .ok (.iaload, 1) := by decide +kernel
theorem d_M_at_27 : decode b_M_at 27 = .ok (.aload_n 0, 1) := by decide +kernel
theorem d_M_at_28 : decode b_M_at 28 = .ok (.getfield 16, 3) := by decide +kernel
theorem d_M_at_31 : decode b_M_at 31 = .ok (.iload_n 1, 1) := by decide +kernel
theorem d_M_at_32 : decode b_M_at 32 = .ok (.iaload, 1) := by decide +kernel
theorem d_M_at_33 : decode b_M_at 33 = .ok (.isub, 1) := by decide +kernel
theorem d_M_at_34 : decode b_M_at 34 = .ok (.istore_n 3, 1) := by decide +kernel
theorem d_M_at_35 : decode b_M_at 35 = .ok (.iconst 0, 1) := by decide +kernel
theorem d_M_at_36 : decode b_M_at 36 = .ok (.istore 4, 2) := by decide +kernel
theorem d_M_at_38 : decode b_M_at 38 = .ok (.aload_n 0, 1) := by decide +kernel
theorem d_M_at_39 : decode b_M_at 39 = .ok (.getfield 56, 3) := by decide +kernel
theorem d_M_at_42 : decode b_M_at 42 = .ok (.iload_n 1, 1) := by decide +kernel
theorem d_M_at_43 : decode b_M_at 43 = .ok (.iaload, 1) := by decide +kernel
theorem d_M_at_44 : decode b_M_at 44 = .ok (.istore 5, 2) := by decide +kernel
theorem d_M_at_46 : decode b_M_at 46 = .ok (.iload 5, 2) := by decide +kernel
theorem d_M_at_48 : decode b_M_at 48 = .ok (.iload_n 2, 1) := by decide +kernel
theorem d_M_at_49 : decode b_M_at 49 = .ok (.if_icmp .ge 39, 3) := by decide +kernel
theorem d_M_at_52 : decode b_M_at 52 = .ok (.iload 4, 2) := by decide +kernel
theorem d_M_at_54 : decode b_M_at 54 = .ok (.iload_n 3, 1) := by decide +kernel
theorem d_M_at_55 : decode b_M_at 55 = .ok (.if_icmp .ge 33, 3) := by decide +kernel
theorem d_M_at_58 : decode b_M_at 58 = .ok (.iload 4, 2) := by decide +kernel
theorem d_M_at_60 : decode b_M_at 60 = .ok (.aload_n 0, 1) := by decide +kernel
theorem d_M_at_61 : decode b_M_at 61 = .ok (.iload 5, 2) := by decide +kernel
theorem d_M_at_63 : decode b_M_at 63 = .ok (.invokevirtual 123, 3) := by decide +kernel
theorem d_M_at_66 : decode b_M_at 66 = .ok (.ifCond .eq 7, 3) := by decide +kernel
theorem d_M_at_69 : decode b_M_at 69 = .ok (.iconst 0, 1) := by decide +kernel
theorem d_M_at_70 : decode b_M_at 70 = .ok (.goto 9, 3) := by decide +kernel
theorem d_M_at_73 : decode b_M_at 73 = .ok (.aload_n 0, 1) := by decide +kernel
theorem d_M_at_74 : decode b_M_at 74 = .ok (.getfield 22, 3) := by decide +kernel
theorem d_M_at_77 : decode b_M_at 77 = .ok (.iload_n 1, 1) := by decide +kernel
theorem d_M_at_78 : decode b_M_at 78 = .ok (.iaload, 1) := by decide +kernel
theorem d_M_at_79 : decode b_M_at 79 = .ok (.iadd, 1) := by decide +kernel
theorem d_M_at_80 : decode b_M_at 80 = .ok (.istore 4, 2) := by decide +kernel
theorem d_M_at_82 : decode b_M_at 82 = .ok (.iinc 5 1, 3) := by decide +kernel
theorem d_M_at_85 : decode b_M_at 85 = .ok (.goto (-39), 3) := by decide +kernel
theorem d_M_at_88 : decode b_M_at 88 = .ok (.iload 4, 2) := by decide +kernel
theorem d_M_at_90 : decode b_M_at 90 = .ok (.iload_n 3, 1) := by decide +kernel
theorem d_M_at_91 : decode b_M_at 91 = .ok (.if_icmp .le 7, 3) := by decide +kernel
theorem d_M_at_94 : decode b_M_at 94 = .ok (.iload_n 3, 1) := by decide +kernel
theorem d_M_at_95 : decode b_M_at 95 = .ok (.goto 5, 3) := by decide +kernel
theorem d_M_at_98 : decode b_M_at 98 = .ok (.iload 4, 2) := by decide +kernel
theorem d_M_at_100 : decode b_M_at 100 = .ok (.istore 4, 2) := by decide +kernel
theorem d_M_at_102 : decode b_M_at 102 = .ok (.aload_n 0, 1) := by decide +kernel
theorem d_M_at_103 : decode b_M_at 103 = .ok (.getfield 59, 3) := by decide +kernel
theorem d_M_at_106 : decode b_M_at 106 = .ok (.iload_n 1, 1) := by decide +kernel
theorem d_M_at_107 : decode b_M_at 107 = .ok (.iaload, 1) := by decide +kernel
theorem d_M_at_108 : decode b_M_at 108 = .ok (.ifCond .ne 15, 3) := by decide +kernel
theorem d_M_at_111 : decode b_M_at 111 = .ok (.aload_n 0, 1) := by decide +kernel
theorem d_M_at_112 : decode b_M_at 112 = .ok (.getfield 16, 3) := by decide +kernel
theorem d_M_at_115 : decode b_M_at 115 = .ok (.iload_n 1, 1) := by decide +kernel
theorem d_M_at_116 : decode b_M_at 116 = .ok (.iaload, 1) := by decide +kernel
theorem d_M_at_117 : decode b_M_at 117 = .ok (.iload 4, 2) := by decide +kernel
theorem d_M_at_119 : decode b_M_at 119 = .ok (.iadd, 1) := by decide +kernel
theorem d_M_at_120 : decode b_M_at 120 = .ok (.goto 12, 3) := by decide +kernel
theorem d_M_at_123 : decode b_M_at 123 = .ok (.aload_n 0, 1) := by decide +kernel
theorem d_M_at_124 : decode b_M_at 124 = .ok (.getfield 19, 3) := by decide +kernel
theorem d_M_at_127 : decode b_M_at 127 = .ok (.iload_n 1, 1) := by decide +kernel
theorem d_M_at_128 : decode b_M_at 128 = .ok (.iaload, 1) := by decide +kernel
theorem d_M_at_129 : decode b_M_at 129 = .ok (.iload 4, 2) := by decide +kernel
theorem d_M_at_131 : decode b_M_at 131 = .ok (.isub, 1) := by decide +kernel
theorem d_M_at_132 : decode b_M_at 132 = .ok (.ireturn, 1) := by decide +kernel
theorem d_M_common_0 : decode b_M_common 0 = .ok (.iload_n 0, 1) := by decide +kernel
theorem d_M_common_1 : decode b_M_common 1 = .ok (.istore_n 2, 1) := by decide +kernel
theorem d_M_common_2 : decode b_M_common 2 = .ok (.iload_n 1, 1) := by decide +kernel
theorem d_M_common_3 : decode b_M_common 3 = .ok (.istore_n 3, 1) := by decide +kernel
theorem d_M_common_4 : decode b_M_common 4 = .ok (.iload_n 3, 1) := by decide +kernel
theorem d_M_common_5 : decode b_M_common 5 = .ok (.ifCond .le 16, 3) := by decide +kernel
theorem d_M_common_8 : decode b_M_common 8 = .ok (.iload_n 2, 1) := by decide +kernel
theorem d_M_common_9 : decode b_M_common 9 = .ok (.iload_n 3, 1) := by decide +kernel
theorem d_M_common_10 : decode b_M_common 10 = .ok (.irem, 1) := by decide +kernel
theorem d_M_common_11 : decode b_M_common 11 = .ok (.istore 4, 2) := by decide +kernel
theorem d_M_common_13 : decode b_M_common 13 = .ok (.iload_n 3, 1) := by decide +kernel
theorem d_M_common_14 : decode b_M_common 14 = .ok (.istore_n 2, 1) := by decide +kernel
theorem d_M_common_15 : decode b_M_common 15 = .ok (.iload 4, 2) := by decide +kernel
theorem d_M_common_17 : decode b_M_common 17 = .ok (.istore_n 3, 1) := by decide +kernel
theorem d_M_common_18 : decode b_M_common 18 = .ok (.goto (-14), 3) := by decide +kernel
theorem d_M_common_21 : decode b_M_common 21 = .ok (.iload_n 2, 1) := by decide +kernel
theorem d_M_common_22 : decode b_M_common 22 = .ok (.ireturn, 1) := by decide +kernel
theorem d_M_passes_0 : decode b_M_passes 0 = .ok (.aload_n 0, 1) := by decide +kernel
theorem d_M_passes_1 : decode b_M_passes 1 = .ok (.getfield 99, 3) := by decide +kernel
theorem d_M_passes_4 : decode b_M_passes 4 = .ok (.ifCond .eq 40, 3) := by decide +kernel
theorem d_M_passes_7 : decode b_M_passes 7 = .ok (.aload_n 0, 1) := by decide +kernel
theorem d_M_passes_8 : decode b_M_passes 8 = .ok (.iload_n 1, 1) := by decide +kernel
theorem d_M_passes_9 : decode b_M_passes 9 = .ok (.invokevirtual 113, 3) := by decide +kernel
theorem d_M_passes_12 : decode b_M_passes 12 = .ok (.ifCond .eq 32, 3) := by decide +kernel
theorem d_M_passes_15 : decode b_M_passes 15 = .ok (.iload_n 2, 1) := by decide +kernel
theorem d_M_passes_16 : decode b_M_passes 16 = .ok (.aload_n 0, 1) := by decide +kernel
theorem d_M_passes_17 : decode b_M_passes 17 = .ok (.getfield 16, 3) := by decide +kernel
theorem d_M_passes_20 : decode b_M_passes 20 = .ok (.iload_n 1, 1) := by decide +kernel
theorem d_M_passes_21 : decode b_M_passes 21 = .ok (.iaload, 1) := by decide +kernel
theorem d_M_passes_22 : decode b_M_passes 22 = .ok (.aload_n 0, 1) := by decide +kernel
theorem d_M_passes_23 : decode b_M_passes 23 = .ok (.getfield 19, 3) := by decide +kernel
theorem d_M_passes_26 : decode b_M_passes 26 = .ok (.iload_n 1, 1) := by decide +kernel
theorem d_M_passes_27 : decode b_M_passes 27 = .ok (.iaload, 1) := by decide +kernel
theorem d_M_passes_28 : decode b_M_passes 28 = .ok (.invokestatic 103, 3) := by decide +kernel
theorem d_M_passes_31 : decode b_M_passes 31 = .ok (.ifCond .eq 13, 3) := by decide +kernel
theorem d_M_passes_34 : decode b_M_passes 34 = .ok (.iload 4, 2) := by decide +kernel
theorem d_M_passes_36 : decode b_M_passes 36 = .ok (.iconst 0, 1) := by decide +kernel
theorem d_M_passes_37 : decode b_M_passes 37 = .ok (.iconst 1, 1) := by decide +kernel
theorem d_M_passes_38 : decode b_M_passes 38 = .ok (.invokestatic 103, 3) := by decide +kernel
theorem d_M_passes_41 : decode b_M_passes 41 = .ok (.ifCond .ne 5, 3) := by decide +kernel
theorem d_M_passes_44 : decode b_M_passes 44 = .ok (.iconst (-1), 1) := by decide +kernel
theorem d_M_passes_45 : decode b_M_passes 45 = .ok (.ireturn, 1) := by decide +kernel
theorem d_M_passes_46 : decode b_M_passes 46 = .ok (.aload_n 0, 1) := by decide +kernel
theorem d_M_passes_47 : decode b_M_passes 47 = .ok (.invokevirtual 191, 3) := by decide +kernel
theorem d_M_passes_50 : decode b_M_passes 50 = .ok (.iload_n 3, 1) := by decide +kernel
theorem d_M_passes_51 : decode b_M_passes 51 = .ok (.ifCond .eq 18, 3) := by decide +kernel
theorem d_M_passes_54 : decode b_M_passes 54 = .ok (.aload_n 0, 1) := by decide +kernel
theorem d_M_passes_55 : decode b_M_passes 55 = .ok (.getfield 83, 3) := by decide +kernel
theorem d_M_passes_58 : decode b_M_passes 58 = .ok (.sipush 201, 3) := by decide +kernel
theorem d_M_passes_61 : decode b_M_passes 61 = .ok (.iload_n 1, 1) := by decide +kernel
theorem d_M_passes_62 : decode b_M_passes 62 = .ok (.imul, 1) := by decide +kernel
theorem d_M_passes_63 : decode b_M_passes 63 = .ok (.iload_n 2, 1) := by decide +kernel
theorem d_M_passes_64 : decode b_M_passes 64 = .ok (.iadd, 1) := by decide +kernel
theorem d_M_passes_65 : decode b_M_passes 65 = .ok (.iaload, 1) := by decide +kernel
theorem d_M_passes_66 : decode b_M_passes 66 = .ok (.goto 15, 3) := by decide +kernel
theorem d_M_passes_69 : decode b_M_passes 69 = .ok (.aload_n 0, 1) := by decide +kernel
theorem d_M_passes_70 : decode b_M_passes 70 = .ok (.getfield 80, 3) := by decide +kernel
theorem d_M_passes_73 : decode b_M_passes 73 = .ok (.sipush 201, 3) := by decide +kernel
theorem d_M_passes_76 : decode b_M_passes 76 = .ok (.iload_n 1, 1) := by decide +kernel
theorem d_M_passes_77 : decode b_M_passes 77 = .ok (.imul, 1) := by decide +kernel
theorem d_M_passes_78 : decode b_M_passes 78 = .ok (.iload_n 2, 1) := by decide +kernel
theorem d_M_passes_79 : decode b_M_passes 79 = .ok (.iadd, 1) := by decide +kernel
theorem d_M_passes_80 : decode b_M_passes 80 = .ok (.iaload, 1) := by decide +kernel
theorem d_M_passes_81 : decode b_M_passes 81 = .ok (.istore 5, 2) := by decide +kernel
theorem d_M_passes_83 : decode b_M_passes 83 = .ok (.iload 5, 2) := by decide +kernel
theorem d_M_passes_85 : decode b_M_passes 85 = .ok (.aload_n 0, 1) := by decide +kernel
theorem d_M_passes_86 : decode b_M_passes 86 = .ok (.getfield 22, 3) := by decide +kernel
theorem d_M_passes_89 : decode b_M_passes 89 = .ok (.iload_n 1, 1) := by decide +kernel
theorem d_M_passes_90 : decode b_M_passes 90 = .ok (.iaload, 1) := by decide +kernel
theorem d_M_passes_91 : decode b_M_passes 91 = .ok (.invokestatic 194, 3) := by decide +kernel
theorem d_M_passes_94 : decode b_M_passes 94 = .ok (.istore 6, 2) := by decide +kernel
theorem d_M_passes_96 : decode b_M_passes 96 = .ok (.iload 4, 2) := by decide +kernel
theorem d_M_passes_98 : decode b_M_passes 98 = .ok (.ifCond .ne 11, 3) := by decide +kernel
theorem d_M_passes_101 : decode b_M_passes 101 = .ok (.iload 5, 2) := by decide +kernel
theorem d_M_passes_103 : decode b_M_passes 103 = .ok (.iload 6, 2) := by decide +kernel
theorem d_M_passes_105 : decode b_M_passes 105 = .ok (.idiv, 1) := by decide +kernel
theorem d_M_passes_106 : decode b_M_passes 106 = .ok (.goto 12, 3) := by decide +kernel
theorem d_M_passes_109 : decode b_M_passes 109 = .ok (.aload_n 0, 1) := by decide +kernel
theorem d_M_passes_110 : decode b_M_passes 110 = .ok (.getfield 22, 3) := by decide +kernel
theorem d_M_passes_113 : decode b_M_passes 113 = .ok (.iload_n 1, 1) := by decide +kernel
theorem d_M_passes_114 : decode b_M_passes 114 = .ok (.iaload, 1) := by decide +kernel
theorem d_M_passes_115 : decode b_M_passes 115 = .ok (.iload 6, 2) := by decide +kernel
theorem d_M_passes_117 : decode b_M_passes 117 = .ok (.idiv, 1) := by decide +kernel
theorem d_M_passes_118 : decode b_M_passes 118 = .ok (.ireturn, 1) := by decide +kernel
theorem d_M_crosses_0 : decode b_M_crosses 0 = .ok (.aload_n 0, 1) := by decide +kernel
theorem d_M_crosses_1 : decode b_M_crosses 1 = .ok (.getfield 99, 3) := by decide +kernel
theorem d_M_crosses_4 : decode b_M_crosses 4 = .ok (.ifCond .eq 19, 3) := by decide +kernel
theorem d_M_crosses_7 : decode b_M_crosses 7 = .ok (.aload_n 0, 1) := by decide +kernel
theorem d_M_crosses_8 : decode b_M_crosses 8 = .ok (.iload_n 1, 1) := by decide +kernel
theorem d_M_crosses_9 : decode b_M_crosses 9 = .ok (.invokevirtual 113, 3) := by decide +kernel
theorem d_M_crosses_12 : decode b_M_crosses 12 = .ok (.ifCond .eq 11, 3) := by decide +kernel
theorem d_M_crosses_15 : decode b_M_crosses 15 = .ok (.aload_n 0, 1) := by decide +kernel
theorem d_M_crosses_16 : decode b_M_crosses 16 = .ok (.iload_n 2, 1) := by decide +kernel
theorem d_M_crosses_17 : decode b_M_crosses 17 = .ok (.invokevirtual 113, 3) := by decide +kernel
theorem d_M_crosses_20 : decode b_M_crosses 20 = .ok (.ifCond .ne 5, 3) := by decide +kernel
theorem d_M_crosses_23 : decode b_M_crosses 23 = .ok (.iconst 0, 1) := by decide +kernel
theorem d_M_crosses_24 : decode b_M_crosses 24 = .ok (.ireturn, 1) := by decide +kernel
theorem d_M_crosses_25 : decode b_M_crosses 25 = .ok (.aload_n 0, 1) := by decide +kernel
theorem d_M_crosses_26 : decode b_M_crosses 26 = .ok (.invokevirtual 191, 3) := by decide +kernel
theorem d_M_crosses_29 : decode b_M_crosses 29 = .ok (.iconst 0, 1) := by decide +kernel
theorem d_M_crosses_30 : decode b_M_crosses 30 = .ok (.istore_n 3, 1) := by decide +kernel
theorem d_M_crosses_31 : decode b_M_crosses 31 = .ok (.iconst 0, 1) := by decide +kernel
theorem d_M_crosses_32 : decode b_M_crosses 32 = .ok (.istore 4, 2) := by decide +kernel
theorem d_M_crosses_34 : decode b_M_crosses 34 = .ok (.iconst 0, 1) := by decide +kernel
theorem d_M_crosses_35 : decode b_M_crosses 35 = .ok (.istore 5, 2) := by decide +kernel
theorem d_M_crosses_37 : decode b_M_crosses 37 = .ok (.iload 5, 2) := by decide +kernel
theorem d_M_crosses_39 : decode b_M_crosses 39 = .ok (.sipush 201, 3) := by decide +kernel
theorem d_M_crosses_42 : decode b_M_crosses 42 = .ok (.if_icmp .ge 135, 3) := by decide +kernel
theorem d_M_crosses_45 : decode b_M_crosses 45 = .ok (.iload 5, 2) := by decide +kernel
theorem d_M_crosses_47 : decode b_M_crosses 47 = .ok (.aload_n 0, 1) := by decide +kernel
theorem d_M_crosses_48 : decode b_M_crosses 48 = .ok (.getfield 16, 3) := by decide +kernel
theorem d_M_crosses_51 : decode b_M_crosses 51 = .ok (.iload_n 1, 1) := by decide +kernel
theorem d_M_crosses_52 : decode b_M_crosses 52 = .ok (.iaload, 1) := by decide +kernel
theorem d_M_crosses_53 : decode b_M_crosses 53 = .ok (.aload_n 0, 1) := by decide +kernel
theorem d_M_crosses_54 : decode b_M_crosses 54 = .ok (.getfield 19, 3) := by decide +kernel
theorem d_M_crosses_57 : decode b_M_crosses 57 = .ok (.iload_n 1, 1) := by decide +kernel
theorem d_M_crosses_58 : decode b_M_crosses 58 = .ok (.iaload, 1) := by decide +kernel
theorem d_M_crosses_59 : decode b_M_crosses 59 = .ok (.invokestatic 103, 3) := by decide +kernel
theorem d_M_crosses_62 : decode b_M_crosses 62 = .ok (.ifCond .eq 109, 3) := by decide +kernel
theorem d_M_crosses_65 : decode b_M_crosses 65 = .ok (.iload 5, 2) := by decide +kernel
theorem d_M_crosses_67 : decode b_M_crosses 67 = .ok (.aload_n 0, 1) := by decide +kernel
theorem d_M_crosses_68 : decode b_M_crosses 68 = .ok (.getfield 16, 3) := by decide +kernel
theorem d_M_crosses_71 : decode b_M_crosses 71 = .ok (.iload_n 2, 1) := by decide +kernel
theorem d_M_crosses_72 : decode b_M_crosses 72 = .ok (.iaload, 1) := by decide +kernel
theorem d_M_crosses_73 : decode b_M_crosses 73 = .ok (.aload_n 0, 1) := by decide +kernel
theorem d_M_crosses_74 : decode b_M_crosses 74 = .ok (.getfield 19, 3) := by decide +kernel
theorem d_M_crosses_77 : decode b_M_crosses 77 = .ok (.iload_n 2, 1) := by decide +kernel
theorem d_M_crosses_78 : decode b_M_crosses 78 = .ok (.iaload, 1) := by decide +kernel
theorem d_M_crosses_79 : decode b_M_crosses 79 = .ok (.invokestatic 103, 3) := by decide +kernel
theorem d_M_crosses_82 : decode b_M_crosses 82 = .ok (.ifCond .eq 89, 3) := by decide +kernel
theorem d_M_crosses_85 : decode b_M_crosses 85 = .ok (.aload_n 0, 1) := by decide +kernel
theorem d_M_crosses_86 : decode b_M_crosses 86 = .ok (.getfield 80, 3) := by decide +kernel
theorem d_M_crosses_89 : decode b_M_crosses 89 = .ok (.sipush 201, 3) := by decide +kernel
theorem d_M_crosses_92 : decode b_M_crosses 92 = .ok (.iload_n 1, 1) := by decide +kernel
theorem d_M_crosses_93 : decode b_M_crosses 93 = .ok (.imul, 1) := by decide +kernel
theorem d_M_crosses_94 : decode b_M_crosses 94 = .ok (.iload 5, 2) := by decide +kernel
theorem d_M_crosses_96 : decode b_M_crosses 96 = .ok (.iadd, 1) := by decide +kernel
theorem d_M_crosses_97 : decode b_M_crosses 97 = .ok (.iaload, 1) := by decide +kernel
theorem d_M_crosses_98 : decode b_M_crosses 98 = .ok (.i2l, 1) := by decide +kernel
theorem d_M_crosses_99 : decode b_M_crosses 99 = .ok (.aload_n 0, 1) := by decide +kernel
theorem d_M_crosses_100 : decode b_M_crosses 100 = .ok (.getfield 22, 3) := by decide +kernel
theorem d_M_crosses_103 : decode b_M_crosses 103 = .ok (.iload_n 2, 1) := by decide +kernel
theorem d_M_crosses_104 : decode b_M_crosses 104 = .ok (.iaload, 1) := by decide +kernel
theorem d_M_crosses_105 : decode b_M_crosses 105 = .ok (.i2l, 1) := by decide +kernel
theorem d_M_crosses_106 : decode b_M_crosses 106 = .ok (.lmul, 1) := by decide +kernel
theorem d_M_crosses_107 : decode b_M_crosses 107 = .ok (.lstore 6, 2) := by decide +kernel
theorem d_M_crosses_109 : decode b_M_crosses 109 = .ok (.aload_n 0, 1) := by decide +kernel
theorem d_M_crosses_110 : decode b_M_crosses 110 = .ok (.getfield 80, 3) := by decide +kernel
theorem d_M_crosses_113 : decode b_M_crosses 113 = .ok (.sipush 201, 3) := by decide +kernel
theorem d_M_crosses_116 : decode b_M_crosses 116 = .ok (.iload_n 2, 1) := by decide +kernel
theorem d_M_crosses_117 : decode b_M_crosses 117 = .ok (.imul, 1) := by decide +kernel
theorem d_M_crosses_118 : decode b_M_crosses 118 = .ok (.iload 5, 2) := by decide +kernel
theorem d_M_crosses_120 : decode b_M_crosses 120 = .ok (.iadd, 1) := by decide +kernel
theorem d_M_crosses_121 : decode b_M_crosses 121 = .ok (.iaload, 1) := by decide +kernel
theorem d_M_crosses_122 : decode b_M_crosses 122 = .ok (.i2l, 1) := by decide +kernel
theorem d_M_crosses_123 : decode b_M_crosses 123 = .ok (.aload_n 0, 1) := by decide +kernel
theorem d_M_crosses_124 : decode b_M_crosses 124 = .ok (.getfield 22, 3) := by decide +kernel
theorem d_M_crosses_127 : decode b_M_crosses 127 = .ok (.iload_n 1, 1) := by decide +kernel
theorem d_M_crosses_128 : decode b_M_crosses 128 = .ok (.iaload, 1) := by decide +kernel
theorem d_M_crosses_129 : decode b_M_crosses 129 = .ok (.i2l, 1) := by decide +kernel
theorem d_M_crosses_130 : decode b_M_crosses 130 = .ok (.lmul, 1) := by decide +kernel
theorem d_M_crosses_131 : decode b_M_crosses 131 = .ok (.lstore 8, 2) := by decide +kernel
theorem d_M_crosses_133 : decode b_M_crosses 133 = .ok (.iload_n 3, 1) := by decide +kernel
theorem d_M_crosses_134 : decode b_M_crosses 134 = .ok (.ifCond .ne 11, 3) := by decide +kernel
theorem d_M_crosses_137 : decode b_M_crosses 137 = .ok (.lload 6, 2) := by decide +kernel
theorem d_M_crosses_139 : decode b_M_crosses 139 = .ok (.lload 8, 2) := by decide +kernel
theorem d_M_crosses_141 : decode b_M_crosses 141 = .ok (.lcmp, 1) := by decide +kernel
theorem d_M_crosses_142 : decode b_M_crosses 142 = .ok (.ifCond .ge 7, 3) := by decide +kernel
theorem d_M_crosses_145 : decode b_M_crosses 145 = .ok (.iconst 1, 1) := by decide +kernel
theorem d_M_crosses_146 : decode b_M_crosses 146 = .ok (.goto 4, 3) := by decide +kernel
theorem d_M_crosses_149 : decode b_M_crosses 149 = .ok (.iconst 0, 1) := by decide +kernel
theorem d_M_crosses_150 : decode b_M_crosses 150 = .ok (.istore_n 3, 1) := by decide +kernel
theorem d_M_crosses_151 : decode b_M_crosses 151 = .ok (.iload 4, 2) := by decide +kernel
theorem d_M_crosses_153 : decode b_M_crosses 153 = .ok (.ifCond .ne 11, 3) := by decide +kernel
theorem d_M_crosses_156 : decode b_M_crosses 156 = .ok (.lload 8, 2) := by decide +kernel
theorem d_M_crosses_158 : decode b_M_crosses 158 = .ok (.lload 6, 2) := by decide +kernel
theorem d_M_crosses_160 : decode b_M_crosses 160 = .ok (.lcmp, 1) := by decide +kernel
theorem d_M_crosses_161 : decode b_M_crosses 161 = .ok (.ifCond .ge 7, 3) := by decide +kernel
theorem d_M_crosses_164 : decode b_M_crosses 164 = .ok (.iconst 1, 1) := by decide +kernel
theorem d_M_crosses_165 : decode b_M_crosses 165 = .ok (.goto 4, 3) := by decide +kernel
theorem d_M_crosses_168 : decode b_M_crosses 168 = .ok (.iconst 0, 1) := by decide +kernel
theorem d_M_crosses_169 : decode b_M_crosses 169 = .ok (.istore 4, 2) := by decide +kernel
theorem d_M_crosses_171 : decode b_M_crosses 171 = .ok (.iinc 5 1, 3) := by decide +kernel
theorem d_M_crosses_174 : decode b_M_crosses 174 = .ok (.goto (-137), 3) := by decide +kernel
theorem d_M_crosses_177 : decode b_M_crosses 177 = .ok (.iload_n 3, 1) := by decide +kernel
theorem d_M_crosses_178 : decode b_M_crosses 178 = .ok (.ifCond .eq 12, 3) := by decide +kernel
theorem d_M_crosses_181 : decode b_M_crosses 181 = .ok (.iload 4, 2) := by decide +kernel
theorem d_M_crosses_183 : decode b_M_crosses 183 = .ok (.ifCond .eq 7, 3) := by decide +kernel
theorem d_M_crosses_186 : decode b_M_crosses 186 = .ok (.iconst 1, 1) := by decide +kernel
theorem d_M_crosses_187 : decode b_M_crosses 187 = .ok (.goto 4, 3) := by decide +kernel
theorem d_M_crosses_190 : decode b_M_crosses 190 = .ok (.iconst 0, 1) := by decide +kernel
theorem d_M_crosses_191 : decode b_M_crosses 191 = .ok (.ireturn, 1) := by decide +kernel
theorem d_M_under_0 : decode b_M_under 0 = .ok (.aload_n 0, 1) := by decide +kernel
theorem d_M_under_1 : decode b_M_under 1 = .ok (.getfield 99, 3) := by decide +kernel
theorem d_M_under_4 : decode b_M_under 4 = .ok (.ifCond .eq 16, 3) := by decide +kernel
theorem d_M_under_7 : decode b_M_under 7 = .ok (.iload_n 1, 1) := by decide +kernel
theorem d_M_under_8 : decode b_M_under 8 = .ok (.iconst 0, 1) := by decide +kernel
theorem d_M_under_9 : decode b_M_under 9 = .ok (.iconst 3, 1) := by decide +kernel
theorem d_M_under_10 : decode b_M_under 10 = .ok (.invokestatic 103, 3) := by decide +kernel
theorem d_M_under_13 : decode b_M_under 13 = .ok (.ifCond .eq 7, 3) := by decide +kernel
theorem d_M_under_16 : decode b_M_under 16 = .ok (.iload_n 2, 1) := by decide +kernel
theorem d_M_under_17 : decode b_M_under 17 = .ok (.ifCond .ge 5, 3) := by decide +kernel
theorem d_M_under_20 : decode b_M_under 20 = .ok (.iconst (-1), 1) := by decide +kernel
theorem d_M_under_21 : decode b_M_under 21 = .ok (.ireturn, 1) := by decide +kernel
theorem d_M_under_22 : decode b_M_under 22 = .ok (.aload_n 0, 1) := by decide +kernel
theorem d_M_under_23 : decode b_M_under 23 = .ok (.invokevirtual 191, 3) := by decide +kernel
theorem d_M_under_26 : decode b_M_under 26 = .ok (.iconst 0, 1) := by decide +kernel
theorem d_M_under_27 : decode b_M_under 27 = .ok (.istore_n 3, 1) := by decide +kernel
theorem d_M_under_28 : decode b_M_under 28 = .ok (.iconst 0, 1) := by decide +kernel
theorem d_M_under_29 : decode b_M_under 29 = .ok (.istore 4, 2) := by decide +kernel
theorem d_M_under_31 : decode b_M_under 31 = .ok (.iload 4, 2) := by decide +kernel
theorem d_M_under_33 : decode b_M_under 33 = .ok (.aload_n 0, 1) := by decide +kernel
theorem d_M_under_34 : decode b_M_under 34 = .ok (.getfield 95, 3) := by decide +kernel
theorem d_M_under_37 : decode b_M_under 37 = .ok (.if_icmp .ge 43, 3) := by decide +kernel
theorem d_M_under_40 : decode b_M_under 40 = .ok (.iload_n 3, 1) := by decide +kernel
theorem d_M_under_41 : decode b_M_under 41 = .ok (.aload_n 0, 1) := by decide +kernel
theorem d_M_under_42 : decode b_M_under 42 = .ok (.getfield 7, 3) := by decide +kernel
theorem d_M_under_45 : decode b_M_under 45 = .ok (.aload_n 0, 1) := by decide +kernel
theorem d_M_under_46 : decode b_M_under 46 = .ok (.getfield 13, 3) := by decide +kernel
theorem d_M_under_49 : decode b_M_under 49 = .ok (.iload 4, 2) := by decide +kernel
theorem d_M_under_51 : decode b_M_under 51 = .ok (.iaload, 1) := by decide +kernel
theorem d_M_under_52 : decode b_M_under 52 = .ok (.iaload, 1) := by decide +kernel
theorem d_M_under_53 : decode b_M_under 53 = .ok (.iload_n 1, 1) := by decide +kernel
theorem d_M_under_54 : decode b_M_under 54 = .ok (.if_icmp .ne 17, 3) := by decide +kernel
theorem d_M_under_57 : decode b_M_under 57 = .ok (.aload_n 0, 1) := by decide +kernel
theorem d_M_under_58 : decode b_M_under 58 = .ok (.iload 4, 2) := by decide +kernel
theorem d_M_under_60 : decode b_M_under 60 = .ok (.iload_n 2, 1) := by decide +kernel
theorem d_M_under_61 : decode b_M_under 61 = .ok (.invokevirtual 141, 3) := by decide +kernel
theorem d_M_under_64 : decode b_M_under 64 = .ok (.ifCond .eq 7, 3) := by decide +kernel
theorem d_M_under_67 : decode b_M_under 67 = .ok (.iconst 1, 1) := by decide +kernel
theorem d_M_under_68 : decode b_M_under 68 = .ok (.goto 4, 3) := by decide +kernel
theorem d_M_under_71 : decode b_M_under 71 = .ok (.iconst 0, 1) := by decide +kernel
theorem d_M_under_72 : decode b_M_under 72 = .ok (.iadd, 1) := by decide +kernel
theorem d_M_under_73 : decode b_M_under 73 = .ok (.istore_n 3, 1) := by decide +kernel
theorem d_M_under_74 : decode b_M_under 74 = .ok (.iinc 4 1, 3) := by decide +kernel
theorem d_M_under_77 : decode b_M_under 77 = .ok (.goto (-46), 3) := by decide +kernel
theorem d_M_under_80 : decode b_M_under 80 = .ok (.iload_n 3, 1) := by decide +kernel
theorem d_M_under_81 : decode b_M_under 81 = .ok (.ireturn, 1) := by decide +kernel
theorem d_M_daysOf_0 : decode b_M_daysOf 0 = .ok (.aload_n 0, 1) := by decide +kernel
theorem d_M_daysOf_1 : decode b_M_daysOf 1 = .ok (.getfield 19, 3) := by decide +kernel
theorem d_M_daysOf_4 : decode b_M_daysOf 4 = .ok (.iload_n 1, 1) := by decide +kernel
theorem d_M_daysOf_5 : decode b_M_daysOf 5 = .ok (.iaload, 1) := by decide +kernel
theorem d_M_daysOf_6 : decode b_M_daysOf 6 = .ok (.aload_n 0, 1) := by decide +kernel
theorem d_M_daysOf_7 : decode b_M_daysOf 7 = .ok (.getfield 16, 3) := by decide +kernel
theorem d_M_daysOf_10 : decode b_M_daysOf 10 = .ok (.iload_n 1, 1) := by decide +kernel
theorem d_M_daysOf_11 : decode b_M_daysOf 11 = .ok (.iaload, 1) := by decide +kernel
theorem d_M_daysOf_12 : decode b_M_daysOf 12 = .ok (.isub, 1) := by decide +kernel
theorem d_M_daysOf_13 : decode b_M_daysOf 13 = .ok (.aload_n 0, 1) := by decide +kernel
theorem d_M_daysOf_14 : decode b_M_daysOf 14 = .ok (.getfield 22, 3) := by decide +kernel
theorem d_M_daysOf_17 : decode b_M_daysOf 17 = .ok (.iload_n 1, 1) := by decide +kernel
theorem d_M_daysOf_18 : decode b_M_daysOf 18 = .ok (.iaload, 1) := by decide +kernel
theorem d_M_daysOf_19 : decode b_M_daysOf 19 = .ok (.iadd, 1) := by decide +kernel
theorem d_M_daysOf_20 : decode b_M_daysOf 20 = .ok (.iconst 1, 1) := by decide +kernel
theorem d_M_daysOf_21 : decode b_M_daysOf 21 = .ok (.isub, 1) := by decide +kernel
theorem d_M_daysOf_22 : decode b_M_daysOf 22 = .ok (.aload_n 0, 1) := by decide +kernel
theorem d_M_daysOf_23 : decode b_M_daysOf 23 = .ok (.getfield 22, 3) := by decide +kernel
theorem d_M_daysOf_26 : decode b_M_daysOf 26 = .ok (.iload_n 1, 1) := by decide +kernel
theorem d_M_daysOf_27 : decode b_M_daysOf 27 = .ok (.iaload, 1) := by decide +kernel
theorem d_M_daysOf_28 : decode b_M_daysOf 28 = .ok (.idiv, 1) := by decide +kernel
theorem d_M_daysOf_29 : decode b_M_daysOf 29 = .ok (.ireturn, 1) := by decide +kernel
theorem d_M_bound_0 : decode b_M_bound 0 = .ok (.iconst 0, 1) := by decide +kernel
theorem d_M_bound_1 : decode b_M_bound 1 = .ok (.istore_n 1, 1) := by decide +kernel
theorem d_M_bound_2 : decode b_M_bound 2 = .ok (.iconst 0, 1) := by decide +kernel
theorem d_M_bound_3 : decode b_M_bound 3 = .ok (.istore_n 2, 1) := by decide +kernel
theorem d_M_bound_4 : decode b_M_bound 4 = .ok (.iload_n 2, 1) := by decide +kernel
theorem d_M_bound_5 : decode b_M_bound 5 = .ok (.aload_n 0, 1) := by decide +kernel
theorem d_M_bound_6 : decode b_M_bound 6 = .ok (.getfield 107, 3) := by decide +kernel
theorem d_M_bound_9 : decode b_M_bound 9 = .ok (.if_icmp .ge 64, 3) := by decide +kernel
theorem d_M_bound_12 : decode b_M_bound 12 = .ok (.iconst 0, 1) := by decide +kernel
theorem d_M_bound_13 : decode b_M_bound 13 = .ok (.istore_n 3, 1) := by decide +kernel
theorem d_M_bound_14 : decode b_M_bound 14 = .ok (.iconst 0, 1) := by decide +kernel
theorem d_M_bound_15 : decode b_M_bound 15 = .ok (.istore 4, 2) := by decide +kernel
theorem d_M_bound_17 : decode b_M_bound 17 = .ok (.iload 4, 2) := by decide +kernel
theorem d_M_bound_19 : decode b_M_bound 19 = .ok (.aload_n 0, 1) := by decide +kernel
theorem d_M_bound_20 : decode b_M_bound 20 = .ok (.getfield 95, 3) := by decide +kernel
theorem d_M_bound_23 : decode b_M_bound 23 = .ok (.if_icmp .ge 33, 3) := by decide +kernel
theorem d_M_bound_26 : decode b_M_bound 26 = .ok (.iload_n 3, 1) := by decide +kernel
theorem d_M_bound_27 : decode b_M_bound 27 = .ok (.aload_n 0, 1) := by decide +kernel
theorem d_M_bound_28 : decode b_M_bound 28 = .ok (.getfield 13, 3) := by decide +kernel
theorem d_M_bound_31 : decode b_M_bound 31 = .ok (.iload 4, 2) := by decide +kernel
theorem d_M_bound_33 : decode b_M_bound 33 = .ok (.iaload, 1) := by decide +kernel
theorem d_M_bound_34 : decode b_M_bound 34 = .ok (.iload_n 2, 1) := by decide +kernel
theorem d_M_bound_35 : decode b_M_bound 35 = .ok (.if_icmp .ne 12, 3) := by decide +kernel
theorem d_M_bound_38 : decode b_M_bound 38 = .ok (.aload_n 0, 1) := by decide +kernel
theorem d_M_bound_39 : decode b_M_bound 39 = .ok (.iload 4, 2) := by decide +kernel
theorem d_M_bound_41 : decode b_M_bound 41 = .ok (.invokevirtual 198, 3) := by decide +kernel
theorem d_M_bound_44 : decode b_M_bound 44 = .ok (.goto 4, 3) := by decide +kernel
theorem d_M_bound_47 : decode b_M_bound 47 = .ok (.iconst 0, 1) := by decide +kernel
theorem d_M_bound_48 : decode b_M_bound 48 = .ok (.iadd, 1) := by decide +kernel
theorem d_M_bound_49 : decode b_M_bound 49 = .ok (.istore_n 3, 1) := by decide +kernel
theorem d_M_bound_50 : decode b_M_bound 50 = .ok (.iinc 4 1, 3) := by decide +kernel
theorem d_M_bound_53 : decode b_M_bound 53 = .ok (.goto (-36), 3) := by decide +kernel
theorem d_M_bound_56 : decode b_M_bound 56 = .ok (.iload_n 3, 1) := by decide +kernel
theorem d_M_bound_57 : decode b_M_bound 57 = .ok (.iload_n 1, 1) := by decide +kernel
theorem d_M_bound_58 : decode b_M_bound 58 = .ok (.if_icmp .le 7, 3) := by decide +kernel
theorem d_M_bound_61 : decode b_M_bound 61 = .ok (.iload_n 3, 1) := by decide +kernel
theorem d_M_bound_62 : decode b_M_bound 62 = .ok (.goto 4, 3) := by decide +kernel
theorem d_M_bound_65 : decode b_M_bound 65 = .ok (.iload_n 1, 1) := by decide +kernel
theorem d_M_bound_66 : decode b_M_bound 66 = .ok (.istore_n 1, 1) := by decide +kernel
theorem d_M_bound_67 : decode b_M_bound 67 = .ok (.iinc 2 1, 3) := by decide +kernel
theorem d_M_bound_70 : decode b_M_bound 70 = .ok (.goto (-66), 3) := by decide +kernel
theorem d_M_bound_73 : decode b_M_bound 73 = .ok (.iload_n 1, 1) := by decide +kernel
theorem d_M_bound_74 : decode b_M_bound 74 = .ok (.ireturn, 1) := by decide +kernel
theorem d_M_isLone_0 : decode b_M_isLone 0 = .ok (.iconst 0, 1) := by decide +kernel
theorem d_M_isLone_1 : decode b_M_isLone 1 = .ok (.istore_n 2, 1) := by decide +kernel
theorem d_M_isLone_2 : decode b_M_isLone 2 = .ok (.iload_n 2, 1) := by decide +kernel
theorem d_M_isLone_3 : decode b_M_isLone 3 = .ok (.bipush 100, 2) := by decide +kernel
theorem d_M_isLone_5 : decode b_M_isLone 5 = .ok (.if_icmp .ge 64, 3) := by decide +kernel
theorem d_M_isLone_8 : decode b_M_isLone 8 = .ok (.iconst 0, 1) := by decide +kernel
theorem d_M_isLone_9 : decode b_M_isLone 9 = .ok (.istore_n 3, 1) := by decide +kernel
theorem d_M_isLone_10 : decode b_M_isLone 10 = .ok (.iload_n 3, 1) := by decide +kernel
theorem d_M_isLone_11 : decode b_M_isLone 11 = .ok (.aload_n 0, 1) := by decide +kernel
theorem d_M_isLone_12 : decode b_M_isLone 12 = .ok (.getfield 25, 3) := by decide +kernel
theorem d_M_isLone_15 : decode b_M_isLone 15 = .ok (.iload_n 1, 1) := by decide +kernel
theorem d_M_isLone_16 : decode b_M_isLone 16 = .ok (.baload, 1) := by decide +kernel
theorem d_M_isLone_17 : decode b_M_isLone 17 = .ok (.ifCond .eq 7, 3) := by decide +kernel
theorem d_M_isLone_20 : decode b_M_isLone 20 = .ok (.iconst 2, 1) := by decide +kernel
theorem d_M_isLone_21 : decode b_M_isLone 21 = .ok (.goto 4, 3) := by decide +kernel
theorem d_M_isLone_24 : decode b_M_isLone 24 = .ok (.iconst 1, 1) := by decide +kernel
theorem d_M_isLone_25 : decode b_M_isLone 25 = .ok (.if_icmp .ge 38, 3) := by decide +kernel
theorem d_M_isLone_28 : decode b_M_isLone 28 = .ok (.aload_n 0, 1) := by decide +kernel
theorem d_M_isLone_29 : decode b_M_isLone 29 = .ok (.iload_n 2, 1) := by decide +kernel
theorem d_M_isLone_30 : decode b_M_isLone 30 = .ok (.invokevirtual 123, 3) := by decide +kernel
theorem d_M_isLone_33 : decode b_M_isLone 33 = .ok (.ifCond .ne 30, 3) := by decide +kernel
theorem d_M_isLone_36 : decode b_M_isLone 36 = .ok (.aload_n 0, 1) := by decide +kernel
theorem d_M_isLone_37 : decode b_M_isLone 37 = .ok (.bipush 6, 2) := by decide +kernel
theorem d_M_isLone_39 : decode b_M_isLone 39 = .ok (.iload_n 1, 1) := by decide +kernel
theorem d_M_isLone_40 : decode b_M_isLone 40 = .ok (.iload_n 2, 1) := by decide +kernel
theorem d_M_isLone_41 : decode b_M_isLone 41 = .ok (.iload_n 3, 1) := by decide +kernel
theorem d_M_isLone_42 : decode b_M_isLone 42 = .ok (.invokevirtual 159, 3) := by decide +kernel
theorem d_M_isLone_45 : decode b_M_isLone 45 = .ok (.aload_n 0, 1) := by decide +kernel
theorem d_M_isLone_46 : decode b_M_isLone 46 = .ok (.bipush 6, 2) := by decide +kernel
theorem d_M_isLone_48 : decode b_M_isLone 48 = .ok (.iload_n 1, 1) := by decide +kernel
theorem d_M_isLone_49 : decode b_M_isLone 49 = .ok (.invokevirtual 134, 3) := by decide +kernel
theorem d_M_isLone_52 : decode b_M_isLone 52 = .ok (.ifCond .eq 5, 3) := by decide +kernel
theorem d_M_isLone_55 : decode b_M_isLone 55 = .ok (.iconst 0, 1) := by decide +kernel
theorem d_M_isLone_56 : decode b_M_isLone 56 = .ok (.ireturn, 1) := by decide +kernel
theorem d_M_isLone_57 : decode b_M_isLone 57 = .ok (.iinc 3 1, 3) := by decide +kernel
theorem d_M_isLone_60 : decode b_M_isLone 60 = .ok (.goto (-50), 3) := by decide +kernel
theorem d_M_isLone_63 : decode b_M_isLone 63 = .ok (.iinc 2 1, 3) := by decide +kernel
theorem d_M_isLone_66 : decode b_M_isLone 66 = .ok (.goto (-64), 3) := by decide +kernel
theorem d_M_isLone_69 : decode b_M_isLone 69 = .ok (.iconst 1, 1) := by decide +kernel
theorem d_M_isLone_70 : decode b_M_isLone 70 = .ok (.ireturn, 1) := by decide +kernel
theorem d_M_lone_0 : decode b_M_lone 0 = .ok (.iload_n 1, 1) := by decide +kernel
theorem d_M_lone_1 : decode b_M_lone 1 = .ok (.istore_n 2, 1) := by decide +kernel
theorem d_M_lone_2 : decode b_M_lone 2 = .ok (.iconst 0, 1) := by decide +kernel
theorem d_M_lone_3 : decode b_M_lone 3 = .ok (.istore_n 3, 1) := by decide +kernel
theorem d_M_lone_4 : decode b_M_lone 4 = .ok (.iload_n 3, 1) := by decide +kernel
theorem d_M_lone_5 : decode b_M_lone 5 = .ok (.aload_n 0, 1) := by decide +kernel
theorem d_M_lone_6 : decode b_M_lone 6 = .ok (.getfield 95, 3) := by decide +kernel
theorem d_M_lone_9 : decode b_M_lone 9 = .ok (.if_icmp .ge 30, 3) := by decide +kernel
theorem d_M_lone_12 : decode b_M_lone 12 = .ok (.iload_n 2, 1) := by decide +kernel
theorem d_M_lone_13 : decode b_M_lone 13 = .ok (.ifCond .lt 26, 3) := by decide +kernel
theorem d_M_lone_16 : decode b_M_lone 16 = .ok (.aload_n 0, 1) := by decide +kernel
theorem d_M_lone_17 : decode b_M_lone 17 = .ok (.iload_n 3, 1) := by decide +kernel
theorem d_M_lone_18 : decode b_M_lone 18 = .ok (.invokevirtual 201, 3) := by decide +kernel
theorem d_M_lone_21 : decode b_M_lone 21 = .ok (.ifCond .eq 12, 3) := by decide +kernel
theorem d_M_lone_24 : decode b_M_lone 24 = .ok (.iload_n 2, 1) := by decide +kernel
theorem d_M_lone_25 : decode b_M_lone 25 = .ok (.ifCond .ne 5, 3) := by decide +kernel
theorem d_M_lone_28 : decode b_M_lone 28 = .ok (.iload_n 3, 1) := by decide +kernel
theorem d_M_lone_29 : decode b_M_lone 29 = .ok (.ireturn, 1) := by decide +kernel
theorem d_M_lone_30 : decode b_M_lone 30 = .ok (.iinc 2 (-1), 3) := by decide +kernel
theorem d_M_lone_33 : decode b_M_lone 33 = .ok (.iinc 3 1, 3) := by decide +kernel
theorem d_M_lone_36 : decode b_M_lone 36 = .ok (.goto (-32), 3) := by decide +kernel
theorem d_M_lone_39 : decode b_M_lone 39 = .ok (.iconst (-1), 1) := by decide +kernel
theorem d_M_lone_40 : decode b_M_lone 40 = .ok (.ireturn, 1) := by decide +kernel
theorem d_M_late_0 : decode b_M_late 0 = .ok (.aload_n 0, 1) := by decide +kernel
theorem d_M_late_1 : decode b_M_late 1 = .ok (.getfield 99, 3) := by decide +kernel
theorem d_M_late_4 : decode b_M_late 4 = .ok (.ifCond .eq 21, 3) := by decide +kernel
theorem d_M_late_7 : decode b_M_late 7 = .ok (.aload_n 0, 1) := by decide +kernel
theorem d_M_late_8 : decode b_M_late 8 = .ok (.iload_n 1, 1) := by decide +kernel
theorem d_M_late_9 : decode b_M_late 9 = .ok (.invokevirtual 113, 3) := by decide +kernel
theorem d_M_late_12 : decode b_M_late 12 = .ok (.ifCond .eq 13, 3) := by decide +kernel
theorem d_M_late_15 : decode b_M_late 15 = .ok (.iload_n 2, 1) := by decide +kernel
theorem d_M_late_16 : decode b_M_late 16 = .ok (.iconst 0, 1) := by decide +kernel
theorem d_M_late_17 : decode b_M_late 17 = .ok (.bipush 100, 2) := by decide +kernel
theorem d_M_late_19 : decode b_M_late 19 = .ok (.invokestatic 103, 3) := by decide +kernel
theorem d_M_late_22 : decode b_M_late 22 = .ok (.ifCond .ne 5, 3) := by decide +kernel
theorem d_M_late_25 : decode b_M_late 25 = .ok (.iconst 0, 1) := by decide +kernel
theorem d_M_late_26 : decode b_M_late 26 = .ok (.ireturn, 1) := by decide +kernel
theorem d_M_late_27 : decode b_M_late 27 = .ok (.aload_n 0, 1) := by decide +kernel
theorem d_M_late_28 : decode b_M_late 28 = .ok (.getfield 65, 3) := by decide +kernel
theorem d_M_late_31 : decode b_M_late 31 = .ok (.iload_n 1, 1) := by decide +kernel
theorem d_M_late_32 : decode b_M_late 32 = .ok (.aload_n 0, 1) := by decide +kernel
theorem d_M_late_33 : decode b_M_late 33 = .ok (.getfield 56, 3) := by decide +kernel
theorem d_M_late_36 : decode b_M_late 36 = .ok (.iload_n 1, 1) := by decide +kernel
theorem d_M_late_37 : decode b_M_late 37 = .ok (.iaload, 1) := by decide +kernel
theorem d_M_late_38 : decode b_M_late 38 = .ok (.iload_n 2, 1) := by decide +kernel
theorem d_M_late_39 : decode b_M_late 39 = .ok (.iadd, 1) := by decide +kernel
theorem d_M_late_40 : decode b_M_late 40 = .ok (.iastore, 1) := by decide +kernel
theorem d_M_late_41 : decode b_M_late 41 = .ok (.iconst 1, 1) := by decide +kernel
theorem d_M_late_42 : decode b_M_late 42 = .ok (.ireturn, 1) := by decide +kernel
theorem d_M_freeze_0 : decode b_M_freeze 0 = .ok (.aload_n 0, 1) := by decide +kernel
theorem d_M_freeze_1 : decode b_M_freeze 1 = .ok (.getfield 99, 3) := by decide +kernel
theorem d_M_freeze_4 : decode b_M_freeze 4 = .ok (.ifCond .eq 7, 3) := by decide +kernel
theorem d_M_freeze_7 : decode b_M_freeze 7 = .ok (.iload_n 1, 1) := by decide +kernel
theorem d_M_freeze_8 : decode b_M_freeze 8 = .ok (.ifCond .ge 5, 3) := by decide +kernel
theorem d_M_freeze_11 : decode b_M_freeze 11 = .ok (.iconst (-1), 1) := by decide +kernel
theorem d_M_freeze_12 : decode b_M_freeze 12 = .ok (.ireturn, 1) := by decide +kernel
theorem d_M_freeze_13 : decode b_M_freeze 13 = .ok (.iconst 0, 1) := by decide +kernel
theorem d_M_freeze_14 : decode b_M_freeze 14 = .ok (.istore_n 2, 1) := by decide +kernel
theorem d_M_freeze_15 : decode b_M_freeze 15 = .ok (.iconst 0, 1) := by decide +kernel
theorem d_M_freeze_16 : decode b_M_freeze 16 = .ok (.istore_n 3, 1) := by decide +kernel
theorem d_M_freeze_17 : decode b_M_freeze 17 = .ok (.iload_n 3, 1) := by decide +kernel
theorem d_M_freeze_18 : decode b_M_freeze 18 = .ok (.aload_n 0, 1) := by decide +kernel
theorem d_M_freeze_19 : decode b_M_freeze 19 = .ok (.getfield 95, 3) := by decide +kernel
theorem d_M_freeze_22 : decode b_M_freeze 22 = .ok (.if_icmp .ge 47, 3) := by decide +kernel
theorem d_M_freeze_25 : decode b_M_freeze 25 = .ok (.aload_n 0, 1) := by decide +kernel
theorem d_M_freeze_26 : decode b_M_freeze 26 = .ok (.getfield 62, 3) := by decide +kernel
theorem d_M_freeze_29 : decode b_M_freeze 29 = .ok (.iload_n 3, 1) := by decide +kernel
theorem d_M_freeze_30 : decode b_M_freeze 30 = .ok (.aload_n 0, 1) := by decide +kernel
theorem d_M_freeze_31 : decode b_M_freeze 31 = .ok (.getfield 56, 3) := by decide +kernel
theorem d_M_freeze_34 : decode b_M_freeze 34 = .ok (.iload_n 3, 1) := by decide +kernel
theorem d_M_freeze_35 : decode b_M_freeze 35 = .ok (.iaload, 1) := by decide +kernel
theorem d_M_freeze_36 : decode b_M_freeze 36 = .ok (.iload_n 1, 1) := by decide +kernel
theorem d_M_freeze_37 : decode b_M_freeze 37 = .ok (.if_icmp .ge 7, 3) := by decide +kernel
theorem d_M_freeze_40 : decode b_M_freeze 40 = .ok (.iconst 1, 1) := by decide +kernel
theorem d_M_freeze_41 : decode b_M_freeze 41 = .ok (.goto 4, 3) := by decide +kernel
theorem d_M_freeze_44 : decode b_M_freeze 44 = .ok (.iconst 0, 1) := by decide +kernel
theorem d_M_freeze_45 : decode b_M_freeze 45 = .ok (.bastore, 1) := by decide +kernel
theorem d_M_freeze_46 : decode b_M_freeze 46 = .ok (.iload_n 2, 1) := by decide +kernel
theorem d_M_freeze_47 : decode b_M_freeze 47 = .ok (.aload_n 0, 1) := by decide +kernel
theorem d_M_freeze_48 : decode b_M_freeze 48 = .ok (.getfield 62, 3) := by decide +kernel
theorem d_M_freeze_51 : decode b_M_freeze 51 = .ok (.iload_n 3, 1) := by decide +kernel
theorem d_M_freeze_52 : decode b_M_freeze 52 = .ok (.baload, 1) := by decide +kernel
theorem d_M_freeze_53 : decode b_M_freeze 53 = .ok (.ifCond .eq 7, 3) := by decide +kernel
theorem d_M_freeze_56 : decode b_M_freeze 56 = .ok (.iconst 1, 1) := by decide +kernel
theorem d_M_freeze_57 : decode b_M_freeze 57 = .ok (.goto 4, 3) := by decide +kernel
theorem d_M_freeze_60 : decode b_M_freeze 60 = .ok (.iconst 0, 1) := by decide +kernel
theorem d_M_freeze_61 : decode b_M_freeze 61 = .ok (.iadd, 1) := by decide +kernel
theorem d_M_freeze_62 : decode b_M_freeze 62 = .ok (.istore_n 2, 1) := by decide +kernel
theorem d_M_freeze_63 : decode b_M_freeze 63 = .ok (.iinc 3 1, 3) := by decide +kernel
theorem d_M_freeze_66 : decode b_M_freeze 66 = .ok (.goto (-49), 3) := by decide +kernel
theorem d_M_freeze_69 : decode b_M_freeze 69 = .ok (.iload_n 2, 1) := by decide +kernel
theorem d_M_freeze_70 : decode b_M_freeze 70 = .ok (.ireturn, 1) := by decide +kernel
theorem d_M_moved_0 : decode b_M_moved 0 = .ok (.aload_n 0, 1) := by decide +kernel
theorem d_M_moved_1 : decode b_M_moved 1 = .ok (.getfield 99, 3) := by decide +kernel
theorem d_M_moved_4 : decode b_M_moved 4 = .ok (.ifCond .eq 24, 3) := by decide +kernel
theorem d_M_moved_7 : decode b_M_moved 7 = .ok (.aload_n 0, 1) := by decide +kernel
theorem d_M_moved_8 : decode b_M_moved 8 = .ok (.iload_n 1, 1) := by decide +kernel
theorem d_M_moved_9 : decode b_M_moved 9 = .ok (.invokevirtual 113, 3) := by decide +kernel
theorem d_M_moved_12 : decode b_M_moved 12 = .ok (.ifCond .eq 16, 3) := by decide +kernel
theorem d_M_moved_15 : decode b_M_moved 15 = .ok (.aload_n 0, 1) := by decide +kernel
theorem d_M_moved_16 : decode b_M_moved 16 = .ok (.getfield 68, 3) := by decide +kernel
theorem d_M_moved_19 : decode b_M_moved 19 = .ok (.iload_n 1, 1) := by decide +kernel
theorem d_M_moved_20 : decode b_M_moved 20 = .ok (.baload, 1) := by decide +kernel
theorem d_M_moved_21 : decode b_M_moved 21 = .ok (.ifCond .eq 7, 3) := by decide +kernel
theorem d_M_moved_24 : decode b_M_moved 24 = .ok (.iconst 1, 1) := by decide +kernel
theorem d_M_moved_25 : decode b_M_moved 25 = .ok (.goto 4, 3) := by decide +kernel
theorem d_M_moved_28 : decode b_M_moved 28 = .ok (.iconst 0, 1) := by decide +kernel
theorem d_M_moved_29 : decode b_M_moved 29 = .ok (.ireturn, 1) := by decide +kernel
theorem d_M_slack_0 : decode b_M_slack 0 = .ok (.aload_n 0, 1) := by decide +kernel
theorem d_M_slack_1 : decode b_M_slack 1 = .ok (.getfield 99, 3) := by decide +kernel
theorem d_M_slack_4 : decode b_M_slack 4 = .ok (.ifCond .eq 11, 3) := by decide +kernel
theorem d_M_slack_7 : decode b_M_slack 7 = .ok (.aload_n 0, 1) := by decide +kernel
theorem d_M_slack_8 : decode b_M_slack 8 = .ok (.iload_n 1, 1) := by decide +kernel
theorem d_M_slack_9 : decode b_M_slack 9 = .ok (.invokevirtual 113, 3) := by decide +kernel
theorem d_M_slack_12 : decode b_M_slack 12 = .ok (.ifCond .ne 5, 3) := by decide +kernel
theorem d_M_slack_15 : decode b_M_slack 15 = .ok (.iconst (-1), 1) := by decide +kernel
theorem d_M_slack_16 : decode b_M_slack 16 = .ok (.ireturn, 1) := by decide +kernel
theorem d_M_slack_17 : decode b_M_slack 17 = .ok (.aload_n 0, 1) := by decide +kernel
theorem d_M_slack_18 : decode b_M_slack 18 = .ok (.invokevirtual 191, 3) := by decide +kernel
theorem d_M_slack_21 : decode b_M_slack 21 = .ok (.aload_n 0, 1) := by decide +kernel
theorem d_M_slack_22 : decode b_M_slack 22 = .ok (.aload_n 0, 1) := by decide +kernel
theorem d_M_slack_23 : decode b_M_slack 23 = .ok (.getfield 95, 3) := by decide +kernel
theorem d_M_slack_26 : decode b_M_slack 26 = .ok (.invokevirtual 147, 3) := by decide +kernel
theorem d_M_slack_29 : decode b_M_slack 29 = .ok (.istore_n 2, 1) := by decide +kernel
theorem d_M_slack_30 : decode b_M_slack 30 = .ok (.iconst 0, 1) := by decide +kernel
theorem d_M_slack_31 : decode b_M_slack 31 = .ok (.istore_n 3, 1) := by decide +kernel
theorem d_M_slack_32 : decode b_M_slack 32 = .ok (.aload_n 0, 1) := by decide +kernel
theorem d_M_slack_33 : decode b_M_slack 33 = .ok (.getfield 56, 3) := by decide +kernel
theorem d_M_slack_36 : decode b_M_slack 36 = .ok (.iload_n 1, 1) := by decide +kernel
theorem d_M_slack_37 : decode b_M_slack 37 = .ok (.iaload, 1) := by decide +kernel
theorem d_M_slack_38 : decode b_M_slack 38 = .ok (.iconst 1, 1) := by decide +kernel
theorem d_M_slack_39 : decode b_M_slack 39 = .ok (.iadd, 1) := by decide +kernel
theorem d_M_slack_40 : decode b_M_slack 40 = .ok (.istore 4, 2) := by decide +kernel
theorem d_M_slack_42 : decode b_M_slack 42 = .ok (.iload 4, 2) := by decide +kernel
theorem d_M_slack_44 : decode b_M_slack 44 = .ok (.bipush 100, 2) := by decide +kernel
theorem d_M_slack_46 : decode b_M_slack 46 = .ok (.if_icmp .ge 63, 3) := by decide +kernel
theorem d_M_slack_49 : decode b_M_slack 49 = .ok (.aload_n 0, 1) := by decide +kernel
theorem d_M_slack_50 : decode b_M_slack 50 = .ok (.iload 4, 2) := by decide +kernel
theorem d_M_slack_52 : decode b_M_slack 52 = .ok (.invokevirtual 123, 3) := by decide +kernel
theorem d_M_slack_55 : decode b_M_slack 55 = .ok (.ifCond .ne 48, 3) := by decide +kernel
theorem d_M_slack_58 : decode b_M_slack 58 = .ok (.aload_n 0, 1) := by decide +kernel
theorem d_M_slack_59 : decode b_M_slack 59 = .ok (.bipush 6, 2) := by decide +kernel
theorem d_M_slack_61 : decode b_M_slack 61 = .ok (.iload_n 1, 1) := by decide +kernel
theorem d_M_slack_62 : decode b_M_slack 62 = .ok (.iload 4, 2) := by decide +kernel
theorem d_M_slack_64 : decode b_M_slack 64 = .ok (.aload_n 0, 1) := by decide +kernel
theorem d_M_slack_65 : decode b_M_slack 65 = .ok (.getfield 59, 3) := by decide +kernel
theorem d_M_slack_68 : decode b_M_slack 68 = .ok (.iload_n 1, 1) := by decide +kernel
theorem d_M_slack_69 : decode b_M_slack 69 = .ok (.iaload, 1) := by decide +kernel
theorem d_M_slack_70 : decode b_M_slack 70 = .ok (.invokevirtual 159, 3) := by decide +kernel
theorem d_M_slack_73 : decode b_M_slack 73 = .ok (.aload_n 0, 1) := by decide +kernel
theorem d_M_slack_74 : decode b_M_slack 74 = .ok (.getfield 77, 3) := by decide +kernel
theorem d_M_slack_77 : decode b_M_slack 77 = .ok (.bipush 6, 2) := by decide +kernel
theorem d_M_slack_79 : decode b_M_slack 79 = .ok (.iaload, 1) := by decide +kernel
theorem d_M_slack_80 : decode b_M_slack 80 = .ok (.iload_n 2, 1) := by decide +kernel
theorem d_M_slack_81 : decode b_M_slack 81 = .ok (.if_icmp .gt 17, 3) := by decide +kernel
theorem d_M_slack_84 : decode b_M_slack 84 = .ok (.aload_n 0, 1) := by decide +kernel
theorem d_M_slack_85 : decode b_M_slack 85 = .ok (.bipush 6, 2) := by decide +kernel
theorem d_M_slack_87 : decode b_M_slack 87 = .ok (.iload_n 1, 1) := by decide +kernel
theorem d_M_slack_88 : decode b_M_slack 88 = .ok (.aload_n 0, 1) := by decide +kernel
theorem d_M_slack_89 : decode b_M_slack 89 = .ok (.getfield 95, 3) := by decide +kernel
theorem d_M_slack_92 : decode b_M_slack 92 = .ok (.invokevirtual 163, 3) := by decide +kernel
theorem d_M_slack_95 : decode b_M_slack 95 = .ok (.ifCond .ne 5, 3) := by decide +kernel
theorem d_M_slack_98 : decode b_M_slack 98 = .ok (.iload_n 3, 1) := by decide +kernel
theorem d_M_slack_99 : decode b_M_slack 99 = .ok (.ireturn, 1) := by decide +kernel
theorem d_M_slack_100 : decode b_M_slack 100 = .ok (.iinc 3 1, 3) := by decide +kernel
theorem d_M_slack_103 : decode b_M_slack 103 = .ok (.iinc 4 1, 3) := by decide +kernel
theorem d_M_slack_106 : decode b_M_slack 106 = .ok (.goto (-64), 3) := by decide +kernel
theorem d_M_slack_109 : decode b_M_slack 109 = .ok (.iload_n 3, 1) := by decide +kernel
theorem d_M_slack_110 : decode b_M_slack 110 = .ok (.ireturn, 1) := by decide +kernel
theorem d_M_wetEnd_0 : decode b_M_wetEnd 0 = .ok (.aload_n 0, 1) := by decide +kernel
theorem d_M_wetEnd_1 : decode b_M_wetEnd 1 = .ok (.iload_n 1, 1) := by decide +kernel
theorem d_M_wetEnd_2 : decode b_M_wetEnd 2 = .ok (.invokevirtual 198, 3) := by decide +kernel
theorem d_M_wetEnd_5 : decode b_M_wetEnd 5 = .ok (.istore_n 2, 1) := by decide +kernel
theorem d_M_wetEnd_6 : decode b_M_wetEnd 6 = .ok (.aload_n 0, 1) := by decide +kernel
theorem d_M_wetEnd_7 : decode b_M_wetEnd 7 = .ok (.getfield 56, 3) := by decide +kernel
theorem d_M_wetEnd_10 : decode b_M_wetEnd 10 = .ok (.iload_n 1, 1) := by decide +kernel
theorem d_M_wetEnd_11 : decode b_M_wetEnd 11 = .ok (.iaload, 1) := by decide +kernel
theorem d_M_wetEnd_12 : decode b_M_wetEnd 12 = .ok (.istore_n 3, 1) := by decide +kernel
theorem d_M_wetEnd_13 : decode b_M_wetEnd 13 = .ok (.iload_n 2, 1) := by decide +kernel
theorem d_M_wetEnd_14 : decode b_M_wetEnd 14 = .ok (.ifCond .le 53, 3) := by decide +kernel
theorem d_M_wetEnd_17 : decode b_M_wetEnd 17 = .ok (.aload_n 0, 1) := by decide +kernel
theorem d_M_wetEnd_18 : decode b_M_wetEnd 18 = .ok (.iload_n 3, 1) := by decide +kernel
theorem d_M_wetEnd_19 : decode b_M_wetEnd 19 = .ok (.invokevirtual 123, 3) := by decide +kernel
theorem d_M_wetEnd_22 : decode b_M_wetEnd 22 = .ok (.ifCond .ne 23, 3) := by decide +kernel
theorem d_M_wetEnd_25 : decode b_M_wetEnd 25 = .ok (.iload_n 3, 1) := by decide +kernel
theorem d_M_wetEnd_26 : decode b_M_wetEnd 26 = .ok (.sipush 399, 3) := by decide +kernel
theorem d_M_wetEnd_29 : decode b_M_wetEnd 29 = .ok (.if_icmp .gt 12, 3) := by decide +kernel
theorem d_M_wetEnd_32 : decode b_M_wetEnd 32 = .ok (.aload_n 0, 1) := by decide +kernel
theorem d_M_wetEnd_33 : decode b_M_wetEnd 33 = .ok (.getfield 50, 3) := by decide +kernel
theorem d_M_wetEnd_36 : decode b_M_wetEnd 36 = .ok (.iload_n 3, 1) := by decide +kernel
theorem d_M_wetEnd_37 : decode b_M_wetEnd 37 = .ok (.baload, 1) := by decide +kernel
theorem d_M_wetEnd_38 : decode b_M_wetEnd 38 = .ok (.ifCond .ne 7, 3) := by decide +kernel
theorem d_M_wetEnd_41 : decode b_M_wetEnd 41 = .ok (.iconst 1, 1) := by decide +kernel
theorem d_M_wetEnd_42 : decode b_M_wetEnd 42 = .ok (.goto 4, 3) := by decide +kernel
theorem d_M_wetEnd_45 : decode b_M_wetEnd 45 = .ok (.iconst 0, 1) := by decide +kernel
theorem d_M_wetEnd_46 : decode b_M_wetEnd 46 = .ok (.istore 4, 2) := by decide +kernel
theorem d_M_wetEnd_48 : decode b_M_wetEnd 48 = .ok (.iload_n 2, 1) := by decide +kernel
theorem d_M_wetEnd_49 : decode b_M_wetEnd 49 = .ok (.iload 4, 2) := by decide +kernel
theorem d_M_wetEnd_51 : decode b_M_wetEnd 51 = .ok (.ifCond .eq 7, 3) := by decide +kernel
theorem d_M_wetEnd_54 : decode b_M_wetEnd 54 = .ok (.iconst 1, 1) := by decide +kernel
theorem d_M_wetEnd_55 : decode b_M_wetEnd 55 = .ok (.goto 4, 3) := by decide +kernel
theorem d_M_wetEnd_58 : decode b_M_wetEnd 58 = .ok (.iconst 0, 1) := by decide +kernel
theorem d_M_wetEnd_59 : decode b_M_wetEnd 59 = .ok (.isub, 1) := by decide +kernel
theorem d_M_wetEnd_60 : decode b_M_wetEnd 60 = .ok (.istore_n 2, 1) := by decide +kernel
theorem d_M_wetEnd_61 : decode b_M_wetEnd 61 = .ok (.iinc 3 1, 3) := by decide +kernel
theorem d_M_wetEnd_64 : decode b_M_wetEnd 64 = .ok (.goto (-51), 3) := by decide +kernel
theorem d_M_wetEnd_67 : decode b_M_wetEnd 67 = .ok (.iload_n 3, 1) := by decide +kernel
theorem d_M_wetEnd_68 : decode b_M_wetEnd 68 = .ok (.ireturn, 1) := by decide +kernel
theorem d_M_odds_0 : decode b_M_odds 0 = .ok (.aload_n 0, 1) := by decide +kernel
theorem d_M_odds_1 : decode b_M_odds 1 = .ok (.getfield 99, 3) := by decide +kernel
theorem d_M_odds_4 : decode b_M_odds 4 = .ok (.ifCond .eq 27, 3) := by decide +kernel
theorem d_M_odds_7 : decode b_M_odds 7 = .ok (.iload_n 1, 1) := by decide +kernel
theorem d_M_odds_8 : decode b_M_odds 8 = .ok (.ifCond .lt 23, 3) := by decide +kernel
theorem d_M_odds_11 : decode b_M_odds 11 = .ok (.iload_n 2, 1) := by decide +kernel
theorem d_M_odds_12 : decode b_M_odds 12 = .ok (.iconst 1, 1) := by decide +kernel
theorem d_M_odds_13 : decode b_M_odds 13 = .ok (.bipush 50, 2) := by decide +kernel
theorem d_M_odds_15 : decode b_M_odds 15 = .ok (.invokestatic 103, 3) := by decide +kernel
theorem d_M_odds_18 : decode b_M_odds 18 = .ok (.ifCond .eq 13, 3) := by decide +kernel
theorem d_M_odds_21 : decode b_M_odds 21 = .ok (.iload_n 3, 1) := by decide +kernel
theorem d_M_odds_22 : decode b_M_odds 22 = .ok (.iconst 0, 1) := by decide +kernel
theorem d_M_odds_23 : decode b_M_odds 23 = .ok (.bipush 90, 2) := by decide +kernel
theorem d_M_odds_25 : decode b_M_odds 25 = .ok (.invokestatic 103, 3) := by decide +kernel
theorem d_M_odds_28 : decode b_M_odds 28 = .ok (.ifCond .ne 5, 3) := by decide +kernel
theorem d_M_odds_31 : decode b_M_odds 31 = .ok (.iconst (-1), 1) := by decide +kernel
theorem d_M_odds_32 : decode b_M_odds 32 = .ok (.ireturn, 1) := by decide +kernel
theorem d_M_odds_33 : decode b_M_odds 33 = .ok (.iload 4, 2) := by decide +kernel
theorem d_M_odds_35 : decode b_M_odds 35 = .ok (.istore 5, 2) := by decide +kernel
theorem d_M_odds_37 : decode b_M_odds 37 = .ok (.iconst 0, 1) := by decide +kernel
theorem d_M_odds_38 : decode b_M_odds 38 = .ok (.istore 6, 2) := by decide +kernel
theorem d_M_odds_40 : decode b_M_odds 40 = .ok (.iconst 0, 1) := by decide +kernel
theorem d_M_odds_41 : decode b_M_odds 41 = .ok (.istore 7, 2) := by decide +kernel
theorem d_M_odds_43 : decode b_M_odds 43 = .ok (.iload 7, 2) := by decide +kernel
theorem d_M_odds_45 : decode b_M_odds 45 = .ok (.iload_n 2, 1) := by decide +kernel
theorem d_M_odds_46 : decode b_M_odds 46 = .ok (.if_icmp .ge 122, 3) := by decide +kernel
theorem d_M_odds_49 : decode b_M_odds 49 = .ok (.iconst 0, 1) := by decide +kernel
theorem d_M_odds_50 : decode b_M_odds 50 = .ok (.istore 8, 2) := by decide +kernel
theorem d_M_odds_52 : decode b_M_odds 52 = .ok (.iload 8, 2) := by decide +kernel
theorem d_M_odds_54 : decode b_M_odds 54 = .ok (.sipush 400, 3) := by decide +kernel
theorem d_M_odds_57 : decode b_M_odds 57 = .ok (.if_icmp .ge 47, 3) := by decide +kernel
theorem d_M_odds_60 : decode b_M_odds 60 = .ok (.iload 5, 2) := by decide +kernel
theorem d_M_odds_62 : decode b_M_odds 62 = .ok (.ldc 204, 2) := by decide +kernel
theorem d_M_odds_64 : decode b_M_odds 64 = .ok (.imul, 1) := by decide +kernel
theorem d_M_odds_65 : decode b_M_odds 65 = .ok (.sipush 12345, 3) := by decide +kernel
theorem d_M_odds_68 : decode b_M_odds 68 = .ok (.iadd, 1) := by decide +kernel
theorem d_M_odds_69 : decode b_M_odds 69 = .ok (.ldc 205, 2) := by decide +kernel
theorem d_M_odds_71 : decode b_M_odds 71 = .ok (.iand, 1) := by decide +kernel
theorem d_M_odds_72 : decode b_M_odds 72 = .ok (.istore 5, 2) := by decide +kernel
theorem d_M_odds_74 : decode b_M_odds 74 = .ok (.aload_n 0, 1) := by decide +kernel
theorem d_M_odds_75 : decode b_M_odds 75 = .ok (.getfield 50, 3) := by decide +kernel
theorem d_M_odds_78 : decode b_M_odds 78 = .ok (.iload 8, 2) := by decide +kernel
theorem d_M_odds_80 : decode b_M_odds 80 = .ok (.iload 5, 2) := by decide +kernel
theorem d_M_odds_82 : decode b_M_odds 82 = .ok (.ldc 206, 2) := by decide +kernel
theorem d_M_odds_84 : decode b_M_odds 84 = .ok (.idiv, 1) := by decide +kernel
theorem d_M_odds_85 : decode b_M_odds 85 = .ok (.bipush 100, 2) := by decide +kernel
theorem d_M_odds_87 : decode b_M_odds 87 = .ok (.irem, 1) := by decide +kernel
theorem d_M_odds_88 : decode b_M_odds 88 = .ok (.iload_n 3, 1) := by decide +kernel
theorem d_M_odds_89 : decode b_M_odds 89 = .ok (.if_icmp .ge 7, 3) := by decide +kernel
theorem d_M_odds_92 : decode b_M_odds 92 = .ok (.iconst 1, 1) := by decide +kernel
theorem d_M_odds_93 : decode b_M_odds 93 = .ok (.goto 4, 3) := by decide +kernel
theorem d_M_odds_96 : decode b_M_odds 96 = .ok (.iconst 0, 1) := by decide +kernel
theorem d_M_odds_97 : decode b_M_odds 97 = .ok (.bastore, 1) := by decide +kernel
theorem d_M_odds_98 : decode b_M_odds 98 = .ok (.iinc 8 1, 3) := by decide +kernel
theorem d_M_odds_101 : decode b_M_odds 101 = .ok (.goto (-49), 3) := by decide +kernel
theorem d_M_odds_104 : decode b_M_odds 104 = .ok (.iconst 1, 1) := by decide +kernel
theorem d_M_odds_105 : decode b_M_odds 105 = .ok (.istore 8, 2) := by decide +kernel
theorem d_M_odds_107 : decode b_M_odds 107 = .ok (.iconst 0, 1) := by decide +kernel
theorem d_M_odds_108 : decode b_M_odds 108 = .ok (.istore 9, 2) := by decide +kernel
theorem d_M_odds_110 : decode b_M_odds 110 = .ok (.iload 9, 2) := by decide +kernel
theorem d_M_odds_112 : decode b_M_odds 112 = .ok (.aload_n 0, 1) := by decide +kernel
theorem d_M_odds_113 : decode b_M_odds 113 = .ok (.getfield 95, 3) := by decide +kernel
theorem d_M_odds_116 : decode b_M_odds 116 = .ok (.if_icmp .ge 31, 3) := by decide +kernel
theorem d_M_odds_119 : decode b_M_odds 119 = .ok (.iload 8, 2) := by decide +kernel
theorem d_M_odds_121 : decode b_M_odds 121 = .ok (.ifCond .eq 17, 3) := by decide +kernel
theorem d_M_odds_124 : decode b_M_odds 124 = .ok (.aload_n 0, 1) := by decide +kernel
theorem d_M_odds_125 : decode b_M_odds 125 = .ok (.iload 9, 2) := by decide +kernel
theorem d_M_odds_127 : decode b_M_odds 127 = .ok (.invokevirtual 207, 3) := by decide +kernel
theorem d_M_odds_130 : decode b_M_odds 130 = .ok (.iload_n 1, 1) := by decide +kernel
theorem d_M_odds_131 : decode b_M_odds 131 = .ok (.if_icmp .gt 7, 3) := by decide +kernel
theorem d_M_odds_134 : decode b_M_odds 134 = .ok (.iconst 1, 1) := by decide +kernel
theorem d_M_odds_135 : decode b_M_odds 135 = .ok (.goto 4, 3) := by decide +kernel
theorem d_M_odds_138 : decode b_M_odds 138 = .ok (.iconst 0, 1) := by decide +kernel
theorem d_M_odds_139 : decode b_M_odds 139 = .ok (.istore 8, 2) := by decide +kernel
theorem d_M_odds_141 : decode b_M_odds 141 = .ok (.iinc 9 1, 3) := by decide +kernel
theorem d_M_odds_144 : decode b_M_odds 144 = .ok (.goto (-34), 3) := by decide +kernel
theorem d_M_odds_147 : decode b_M_odds 147 = .ok (.iload 6, 2) := by decide +kernel
theorem d_M_odds_149 : decode b_M_odds 149 = .ok (.iload 8, 2) := by decide +kernel
theorem d_M_odds_151 : decode b_M_odds 151 = .ok (.ifCond .eq 7, 3) := by decide +kernel
theorem d_M_odds_154 : decode b_M_odds 154 = .ok (.iconst 1, 1) := by decide +kernel
theorem d_M_odds_155 : decode b_M_odds 155 = .ok (.goto 4, 3) := by decide +kernel
theorem d_M_odds_158 : decode b_M_odds 158 = .ok (.iconst 0, 1) := by decide +kernel
theorem d_M_odds_159 : decode b_M_odds 159 = .ok (.iadd, 1) := by decide +kernel
theorem d_M_odds_160 : decode b_M_odds 160 = .ok (.istore 6, 2) := by decide +kernel
theorem d_M_odds_162 : decode b_M_odds 162 = .ok (.iinc 7 1, 3) := by decide +kernel
theorem d_M_odds_165 : decode b_M_odds 165 = .ok (.goto (-122), 3) := by decide +kernel
theorem d_M_odds_168 : decode b_M_odds 168 = .ok (.iload 6, 2) := by decide +kernel
theorem d_M_odds_170 : decode b_M_odds 170 = .ok (.ireturn, 1) := by decide +kernel
theorem d_M_count_0 : decode b_M_count 0 = .ok (.iconst 0, 1) := by decide +kernel
theorem d_M_count_1 : decode b_M_count 1 = .ok (.istore_n 2, 1) := by decide +kernel
theorem d_M_count_2 : decode b_M_count 2 = .ok (.iload_n 1, 1) := by decide +kernel
theorem d_M_count_3 : decode b_M_count 3 = .ok (.tableswitch 123 0 5 #[37, 42, 47, 52, 57, 92], 37) := by decide +kernel
theorem d_M_count_40 : decode b_M_count 40 = .ok (.aload_n 0, 1) := by decide +kernel
theorem d_M_count_41 : decode b_M_count 41 = .ok (.getfield 107, 3) := by decide +kernel
theorem d_M_count_44 : decode b_M_count 44 = .ok (.ireturn, 1) := by decide +kernel
theorem d_M_count_45 : decode b_M_count 45 = .ok (.aload_n 0, 1) := by decide +kernel
theorem d_M_count_46 : decode b_M_count 46 = .ok (.getfield 95, 3) := by decide +kernel
theorem d_M_count_49 : decode b_M_count 49 = .ok (.ireturn, 1) := by decide +kernel
theorem d_M_count_50 : decode b_M_count 50 = .ok (.aload_n 0, 1) := by decide +kernel
theorem d_M_count_51 : decode b_M_count 51 = .ok (.getfield 120, 3) := by decide +kernel
theorem d_M_count_54 : decode b_M_count 54 = .ok (.ireturn, 1) := by decide +kernel
theorem d_M_count_55 : decode b_M_count 55 = .ok (.aload_n 0, 1) := by decide +kernel
theorem d_M_count_56 : decode b_M_count 56 = .ok (.getfield 117, 3) := by decide +kernel
theorem d_M_count_59 : decode b_M_count 59 = .ok (.ireturn, 1) := by decide +kernel
theorem d_M_count_60 : decode b_M_count 60 = .ok (.iconst 0, 1) := by decide +kernel
theorem d_M_count_61 : decode b_M_count 61 = .ok (.istore_n 3, 1) := by decide +kernel
theorem d_M_count_62 : decode b_M_count 62 = .ok (.iload_n 3, 1) := by decide +kernel
theorem d_M_count_63 : decode b_M_count 63 = .ok (.aload_n 0, 1) := by decide +kernel
theorem d_M_count_64 : decode b_M_count 64 = .ok (.getfield 95, 3) := by decide +kernel
theorem d_M_count_67 : decode b_M_count 67 = .ok (.if_icmp .ge 26, 3) := by decide +kernel
theorem d_M_count_70 : decode b_M_count 70 = .ok (.iload_n 2, 1) := by decide +kernel
theorem d_M_count_71 : decode b_M_count 71 = .ok (.aload_n 0, 1) := by decide +kernel
theorem d_M_count_72 : decode b_M_count 72 = .ok (.getfield 62, 3) := by decide +kernel
theorem d_M_count_75 : decode b_M_count 75 = .ok (.iload_n 3, 1) := by decide +kernel
theorem d_M_count_76 : decode b_M_count 76 = .ok (.baload, 1) := by decide +kernel
theorem d_M_count_77 : decode b_M_count 77 = .ok (.ifCond .eq 7, 3) := by decide +kernel
theorem d_M_count_80 : decode b_M_count 80 = .ok (.iconst 1, 1) := by decide +kernel
theorem d_M_count_81 : decode b_M_count 81 = .ok (.goto 4, 3) := by decide +kernel
theorem d_M_count_84 : decode b_M_count 84 = .ok (.iconst 0, 1) := by decide +kernel
theorem d_M_count_85 : decode b_M_count 85 = .ok (.iadd, 1) := by decide +kernel
theorem d_M_count_86 : decode b_M_count 86 = .ok (.istore_n 2, 1) := by decide +kernel
theorem d_M_count_87 : decode b_M_count 87 = .ok (.iinc 3 1, 3) := by decide +kernel
theorem d_M_count_90 : decode b_M_count 90 = .ok (.goto (-28), 3) := by decide +kernel
theorem d_M_count_93 : decode b_M_count 93 = .ok (.iload_n 2, 1) := by decide +kernel
theorem d_M_count_94 : decode b_M_count 94 = .ok (.ireturn, 1) := by decide +kernel
theorem d_M_count_95 : decode b_M_count 95 = .ok (.aload_n 0, 1) := by decide +kernel
theorem d_M_count_96 : decode b_M_count 96 = .ok (.getfield 99, 3) := by decide +kernel
theorem d_M_count_99 : decode b_M_count 99 = .ok (.ifCond .eq 7, 3) := by decide +kernel
theorem d_M_count_102 : decode b_M_count 102 = .ok (.aload_n 0, 1) := by decide +kernel
theorem d_M_count_103 : decode b_M_count 103 = .ok (.invokevirtual 191, 3) := by decide +kernel
theorem d_M_count_106 : decode b_M_count 106 = .ok (.aload_n 0, 1) := by decide +kernel
theorem d_M_count_107 : decode b_M_count 107 = .ok (.getfield 99, 3) := by decide +kernel
theorem d_M_count_110 : decode b_M_count 110 = .ok (.ifCond .eq 14, 3) := by decide +kernel
theorem d_M_count_113 : decode b_M_count 113 = .ok (.aload_n 0, 1) := by decide +kernel
theorem d_M_count_114 : decode b_M_count 114 = .ok (.aload_n 0, 1) := by decide +kernel
theorem d_M_count_115 : decode b_M_count 115 = .ok (.getfield 95, 3) := by decide +kernel
theorem d_M_count_118 : decode b_M_count 118 = .ok (.invokevirtual 147, 3) := by decide +kernel
theorem d_M_count_121 : decode b_M_count 121 = .ok (.goto 4, 3) := by decide +kernel
theorem d_M_count_124 : decode b_M_count 124 = .ok (.iconst (-1), 1) := by decide +kernel
theorem d_M_count_125 : decode b_M_count 125 = .ok (.ireturn, 1) := by decide +kernel
theorem d_M_count_126 : decode b_M_count 126 = .ok (.iconst (-1), 1) := by decide +kernel
theorem d_M_count_127 : decode b_M_count 127 = .ok (.ireturn, 1) := by decide +kernel
end
section
theorem d_Z_law_0 : decode b_Z_law 0 = .ok (.new 7, 3) := by decide +kernel
theorem d_Z_law_3 : decode b_Z_law 3 = .ok (.dup, 1) := by decide +kernel
theorem d_Z_law_4 : decode b_Z_law 4 = .ok (.invokespecial 9, 3) := by decide +kernel
theorem d_Z_law_7 : decode b_Z_law 7 = .ok (.astore_n 1, 1) := by decide +kernel
theorem d_Z_law_8 : decode b_Z_law 8 = .ok (.new 10, 3) := by decide +kernel
theorem d_Z_law_11 : decode b_Z_law 11 = .ok (.dup, 1) := by decide +kernel
theorem d_Z_law_12 : decode b_Z_law 12 = .ok (.invokespecial 12, 3) := by decide +kernel
theorem d_Z_law_15 : decode b_Z_law 15 = .ok (.astore_n 2, 1) := by decide +kernel
theorem d_Z_law_16 : decode b_Z_law 16 = .ok (.iconst 0, 1) := by decide +kernel
theorem d_Z_law_17 : decode b_Z_law 17 = .ok (.istore_n 3, 1) := by decide +kernel
theorem d_Z_law_18 : decode b_Z_law 18 = .ok (.iload_n 3, 1) := by decide +kernel
theorem d_Z_law_19 : decode b_Z_law 19 = .ok (.aload_n 0, 1) := by decide +kernel
theorem d_Z_law_20 : decode b_Z_law 20 = .ok (.arraylength, 1) := by decide +kernel
theorem d_Z_law_21 : decode b_Z_law 21 = .ok (.bipush 6, 2) := by decide +kernel
theorem d_Z_law_23 : decode b_Z_law 23 = .ok (.isub, 1) := by decide +kernel
theorem d_Z_law_24 : decode b_Z_law 24 = .ok (.if_icmp .gt 947, 3) := by decide +kernel
theorem d_Z_law_27 : decode b_Z_law 27 = .ok (.aload_n 0, 1) := by decide +kernel
theorem d_Z_law_28 : decode b_Z_law 28 = .ok (.iload_n 3, 1) := by decide +kernel
theorem d_Z_law_29 : decode b_Z_law 29 = .ok (.iaload, 1) := by decide +kernel
theorem d_Z_law_30 : decode b_Z_law 30 = .ok (.bipush 31, 2) := by decide +kernel
theorem d_Z_law_32 : decode b_Z_law 32 = .ok (.iand, 1) := by decide +kernel
theorem d_Z_law_33 : decode b_Z_law 33 = .ok (.tableswitch 932 0 24 #[115, 138, 217, 260, 303, 346, 369, 402, 445, 468, 481, 494, 527, 560, 629, 662, 695, 708, 731, 764, 787, 810, 833, 856, 909], 115) := by decide +kernel
theorem d_Z_law_148 : decode b_Z_law 148 = .ok (.aload_n 1, 1) := by decide +kernel
theorem d_Z_law_149 : decode b_Z_law 149 = .ok (.aload_n 0, 1) := by decide +kernel
theorem d_Z_law_150 : decode b_Z_law 150 = .ok (.iload_n 3, 1) := by decide +kernel
theorem d_Z_law_151 : decode b_Z_law 151 = .ok (.iconst 1, 1) := by decide +kernel
theorem d_Z_law_152 : decode b_Z_law 152 = .ok (.iadd, 1) := by decide +kernel
theorem d_Z_law_153 : decode b_Z_law 153 = .ok (.iaload, 1) := by decide +kernel
theorem d_Z_law_154 : decode b_Z_law 154 = .ok (.invokevirtual 13, 3) := by decide +kernel
theorem d_Z_law_157 : decode b_Z_law 157 = .ok (.aload_n 2, 1) := by decide +kernel
theorem d_Z_law_158 : decode b_Z_law 158 = .ok (.aload_n 0, 1) := by decide +kernel
theorem d_Z_law_159 : decode b_Z_law 159 = .ok (.iload_n 3, 1) := by decide +kernel
theorem d_Z_law_160 : decode b_Z_law 160 = .ok (.iconst 1, 1) := by decide +kernel
theorem d_Z_law_161 : decode b_Z_law 161 = .ok (.iadd, 1) := by decide +kernel
theorem d_Z_law_162 : decode b_Z_law 162 = .ok (.iaload, 1) := by decide +kernel
theorem d_Z_law_163 : decode b_Z_law 163 = .ok (.invokevirtual 17, 3) := by decide +kernel
theorem d_Z_law_166 : decode b_Z_law 166 = .ok (.if_icmp .eq 799, 3) := by decide +kernel
theorem d_Z_law_169 : decode b_Z_law 169 = .ok (.iconst 0, 1) := by decide +kernel
theorem d_Z_law_170 : decode b_Z_law 170 = .ok (.ireturn, 1) := by decide +kernel
theorem d_Z_law_171 : decode b_Z_law 171 = .ok (.aload_n 1, 1) := by decide +kernel
theorem d_Z_law_172 : decode b_Z_law 172 = .ok (.aload_n 0, 1) := by decide +kernel
theorem d_Z_law_173 : decode b_Z_law 173 = .ok (.iload_n 3, 1) := by decide +kernel
theorem d_Z_law_174 : decode b_Z_law 174 = .ok (.iconst 1, 1) := by decide +kernel
theorem d_Z_law_175 : decode b_Z_law 175 = .ok (.iadd, 1) := by decide +kernel
theorem d_Z_law_176 : decode b_Z_law 176 = .ok (.iaload, 1) := by decide +kernel
theorem d_Z_law_177 : decode b_Z_law 177 = .ok (.aload_n 0, 1) := by decide +kernel
theorem d_Z_law_178 : decode b_Z_law 178 = .ok (.iload_n 3, 1) := by decide +kernel
theorem d_Z_law_179 : decode b_Z_law 179 = .ok (.iconst 2, 1) := by decide +kernel
theorem d_Z_law_180 : decode b_Z_law 180 = .ok (.iadd, 1) := by decide +kernel
theorem d_Z_law_181 : decode b_Z_law 181 = .ok (.iaload, 1) := by decide +kernel
theorem d_Z_law_182 : decode b_Z_law 182 = .ok (.aload_n 0, 1) := by decide +kernel
theorem d_Z_law_183 : decode b_Z_law 183 = .ok (.iload_n 3, 1) := by decide +kernel
theorem d_Z_law_184 : decode b_Z_law 184 = .ok (.iconst 3, 1) := by decide +kernel
theorem d_Z_law_185 : decode b_Z_law 185 = .ok (.iadd, 1) := by decide +kernel
theorem d_Z_law_186 : decode b_Z_law 186 = .ok (.iaload, 1) := by decide +kernel
theorem d_Z_law_187 : decode b_Z_law 187 = .ok (.aload_n 0, 1) := by decide +kernel
theorem d_Z_law_188 : decode b_Z_law 188 = .ok (.iload_n 3, 1) := by decide +kernel
theorem d_Z_law_189 : decode b_Z_law 189 = .ok (.iconst 4, 1) := by decide +kernel
theorem d_Z_law_190 : decode b_Z_law 190 = .ok (.iadd, 1) := by decide +kernel
theorem d_Z_law_191 : decode b_Z_law 191 = .ok (.iaload, 1) := by decide +kernel
theorem d_Z_law_192 : decode b_Z_law 192 = .ok (.aload_n 0, 1) := by decide +kernel
theorem d_Z_law_193 : decode b_Z_law 193 = .ok (.iload_n 3, 1) := by decide +kernel
theorem d_Z_law_194 : decode b_Z_law 194 = .ok (.iconst 5, 1) := by decide +kernel
theorem d_Z_law_195 : decode b_Z_law 195 = .ok (.iadd, 1) := by decide +kernel
theorem d_Z_law_196 : decode b_Z_law 196 = .ok (.iaload, 1) := by decide +kernel
theorem d_Z_law_197 : decode b_Z_law 197 = .ok (.ifCond .eq 7, 3) := by decide +kernel
theorem d_Z_law_200 : decode b_Z_law 200 = .ok (.iconst 1, 1) := by decide +kernel
theorem d_Z_law_201 : decode b_Z_law 201 = .ok (.goto 4, 3) := by decide +kernel
theorem d_Z_law_204 : decode b_Z_law 204 = .ok (.iconst 0, 1) := by decide +kernel
theorem d_Z_law_205 : decode b_Z_law 205 = .ok (.invokevirtual 18, 3) := by decide +kernel
theorem d_Z_law_208 : decode b_Z_law 208 = .ok (.aload_n 2, 1) := by decide +kernel
theorem d_Z_law_209 : decode b_Z_law 209 = .ok (.aload_n 0, 1) := by decide +kernel
theorem d_Z_law_210 : decode b_Z_law 210 = .ok (.iload_n 3, 1) := by decide +kernel
theorem d_Z_law_211 : decode b_Z_law 211 = .ok (.iconst 1, 1) := by decide +kernel
theorem d_Z_law_212 : decode b_Z_law 212 = .ok (.iadd, 1) := by decide +kernel
theorem d_Z_law_213 : decode b_Z_law 213 = .ok (.iaload, 1) := by decide +kernel
theorem d_Z_law_214 : decode b_Z_law 214 = .ok (.aload_n 0, 1) := by decide +kernel
theorem d_Z_law_215 : decode b_Z_law 215 = .ok (.iload_n 3, 1) := by decide +kernel
theorem d_Z_law_216 : decode b_Z_law 216 = .ok (.iconst 2, 1) := by decide +kernel
theorem d_Z_law_217 : decode b_Z_law 217 = .ok (.iadd, 1) := by decide +kernel
theorem d_Z_law_218 : decode b_Z_law 218 = .ok (.iaload, 1) := by decide +kernel
theorem d_Z_law_219 : decode b_Z_law 219 = .ok (.aload_n 0, 1) := by decide +kernel
theorem d_Z_law_220 : decode b_Z_law 220 = .ok (.iload_n 3, 1) := by decide +kernel
theorem d_Z_law_221 : decode b_Z_law 221 = .ok (.iconst 3, 1) := by decide +kernel
theorem d_Z_law_222 : decode b_Z_law 222 = .ok (.iadd, 1) := by decide +kernel
theorem d_Z_law_223 : decode b_Z_law 223 = .ok (.iaload, 1) := by decide +kernel
theorem d_Z_law_224 : decode b_Z_law 224 = .ok (.aload_n 0, 1) := by decide +kernel
theorem d_Z_law_225 : decode b_Z_law 225 = .ok (.iload_n 3, 1) := by decide +kernel
theorem d_Z_law_226 : decode b_Z_law 226 = .ok (.iconst 4, 1) := by decide +kernel
theorem d_Z_law_227 : decode b_Z_law 227 = .ok (.iadd, 1) := by decide +kernel
theorem d_Z_law_228 : decode b_Z_law 228 = .ok (.iaload, 1) := by decide +kernel
theorem d_Z_law_229 : decode b_Z_law 229 = .ok (.aload_n 0, 1) := by decide +kernel
theorem d_Z_law_230 : decode b_Z_law 230 = .ok (.iload_n 3, 1) := by decide +kernel
theorem d_Z_law_231 : decode b_Z_law 231 = .ok (.iconst 5, 1) := by decide +kernel
theorem d_Z_law_232 : decode b_Z_law 232 = .ok (.iadd, 1) := by decide +kernel
theorem d_Z_law_233 : decode b_Z_law 233 = .ok (.iaload, 1) := by decide +kernel
theorem d_Z_law_234 : decode b_Z_law 234 = .ok (.ifCond .eq 7, 3) := by decide +kernel
theorem d_Z_law_237 : decode b_Z_law 237 = .ok (.iconst 1, 1) := by decide +kernel
theorem d_Z_law_238 : decode b_Z_law 238 = .ok (.goto 4, 3) := by decide +kernel
theorem d_Z_law_241 : decode b_Z_law 241 = .ok (.iconst 0, 1) := by decide +kernel
theorem d_Z_law_242 : decode b_Z_law 242 = .ok (.invokevirtual 22, 3) := by decide +kernel
theorem d_Z_law_245 : decode b_Z_law 245 = .ok (.if_icmp .eq 720, 3) := by decide +kernel
theorem d_Z_law_248 : decode b_Z_law 248 = .ok (.iconst 0, 1) := by decide +kernel
theorem d_Z_law_249 : decode b_Z_law 249 = .ok (.ireturn, 1) := by decide +kernel
theorem d_Z_law_250 : decode b_Z_law 250 = .ok (.aload_n 1, 1) := by decide +kernel
theorem d_Z_law_251 : decode b_Z_law 251 = .ok (.aload_n 0, 1) := by decide +kernel
theorem d_Z_law_252 : decode b_Z_law 252 = .ok (.iload_n 3, 1) := by decide +kernel
theorem d_Z_law_253 : decode b_Z_law 253 = .ok (.iconst 1, 1) := by decide +kernel
theorem d_Z_law_254 : decode b_Z_law 254 = .ok (.iadd, 1) := by decide +kernel
theorem d_Z_law_255 : decode b_Z_law 255 = .ok (.iaload, 1) := by decide +kernel
theorem d_Z_law_256 : decode b_Z_law 256 = .ok (.aload_n 0, 1) := by decide +kernel
theorem d_Z_law_257 : decode b_Z_law 257 = .ok (.iload_n 3, 1) := by decide +kernel
theorem d_Z_law_258 : decode b_Z_law 258 = .ok (.iconst 2, 1) := by decide +kernel
theorem d_Z_law_259 : decode b_Z_law 259 = .ok (.iadd, 1) := by decide +kernel
theorem d_Z_law_260 : decode b_Z_law 260 = .ok (.iaload, 1) := by decide +kernel
theorem d_Z_law_261 : decode b_Z_law 261 = .ok (.aload_n 0, 1) := by decide +kernel
theorem d_Z_law_262 : decode b_Z_law 262 = .ok (.iload_n 3, 1) := by decide +kernel
theorem d_Z_law_263 : decode b_Z_law 263 = .ok (.iconst 3, 1) := by decide +kernel
theorem d_Z_law_264 : decode b_Z_law 264 = .ok (.iadd, 1) := by decide +kernel
theorem d_Z_law_265 : decode b_Z_law 265 = .ok (.iaload, 1) := by decide +kernel
theorem d_Z_law_266 : decode b_Z_law 266 = .ok (.invokevirtual 23, 3) := by decide +kernel
theorem d_Z_law_269 : decode b_Z_law 269 = .ok (.aload_n 2, 1) := by decide +kernel
theorem d_Z_law_270 : decode b_Z_law 270 = .ok (.aload_n 0, 1) := by decide +kernel
theorem d_Z_law_271 : decode b_Z_law 271 = .ok (.iload_n 3, 1) := by decide +kernel
theorem d_Z_law_272 : decode b_Z_law 272 = .ok (.iconst 1, 1) := by decide +kernel
theorem d_Z_law_273 : decode b_Z_law 273 = .ok (.iadd, 1) := by decide +kernel
theorem d_Z_law_274 : decode b_Z_law 274 = .ok (.iaload, 1) := by decide +kernel
theorem d_Z_law_275 : decode b_Z_law 275 = .ok (.aload_n 0, 1) := by decide +kernel
theorem d_Z_law_276 : decode b_Z_law 276 = .ok (.iload_n 3, 1) := by decide +kernel
theorem d_Z_law_277 : decode b_Z_law 277 = .ok (.iconst 2, 1) := by decide +kernel
theorem d_Z_law_278 : decode b_Z_law 278 = .ok (.iadd, 1) := by decide +kernel
theorem d_Z_law_279 : decode b_Z_law 279 = .ok (.iaload, 1) := by decide +kernel
theorem d_Z_law_280 : decode b_Z_law 280 = .ok (.aload_n 0, 1) := by decide +kernel
theorem d_Z_law_281 : decode b_Z_law 281 = .ok (.iload_n 3, 1) := by decide +kernel
theorem d_Z_law_282 : decode b_Z_law 282 = .ok (.iconst 3, 1) := by decide +kernel
theorem d_Z_law_283 : decode b_Z_law 283 = .ok (.iadd, 1) := by decide +kernel
theorem d_Z_law_284 : decode b_Z_law 284 = .ok (.iaload, 1) := by decide +kernel
theorem d_Z_law_285 : decode b_Z_law 285 = .ok (.invokevirtual 27, 3) := by decide +kernel
theorem d_Z_law_288 : decode b_Z_law 288 = .ok (.if_icmp .eq 677, 3) := by decide +kernel
theorem d_Z_law_291 : decode b_Z_law 291 = .ok (.iconst 0, 1) := by decide +kernel
theorem d_Z_law_292 : decode b_Z_law 292 = .ok (.ireturn, 1) := by decide +kernel
theorem d_Z_law_293 : decode b_Z_law 293 = .ok (.aload_n 1, 1) := by decide +kernel
theorem d_Z_law_294 : decode b_Z_law 294 = .ok (.aload_n 0, 1) := by decide +kernel
theorem d_Z_law_295 : decode b_Z_law 295 = .ok (.iload_n 3, 1) := by decide +kernel
theorem d_Z_law_296 : decode b_Z_law 296 = .ok (.iconst 1, 1) := by decide +kernel
theorem d_Z_law_297 : decode b_Z_law 297 = .ok (.iadd, 1) := by decide +kernel
theorem d_Z_law_298 : decode b_Z_law 298 = .ok (.iaload, 1) := by decide +kernel
theorem d_Z_law_299 : decode b_Z_law 299 = .ok (.aload_n 0, 1) := by decide +kernel
theorem d_Z_law_300 : decode b_Z_law 300 = .ok (.iload_n 3, 1) := by decide +kernel
theorem d_Z_law_301 : decode b_Z_law 301 = .ok (.iconst 2, 1) := by decide +kernel
theorem d_Z_law_302 : decode b_Z_law 302 = .ok (.iadd, 1) := by decide +kernel
theorem d_Z_law_303 : decode b_Z_law 303 = .ok (.iaload, 1) := by decide +kernel
theorem d_Z_law_304 : decode b_Z_law 304 = .ok (.aload_n 0, 1) := by decide +kernel
theorem d_Z_law_305 : decode b_Z_law 305 = .ok (.iload_n 3, 1) := by decide +kernel
theorem d_Z_law_306 : decode b_Z_law 306 = .ok (.iconst 3, 1) := by decide +kernel
theorem d_Z_law_307 : decode b_Z_law 307 = .ok (.iadd, 1) := by decide +kernel
theorem d_Z_law_308 : decode b_Z_law 308 = .ok (.iaload, 1) := by decide +kernel
theorem d_Z_law_309 : decode b_Z_law 309 = .ok (.invokevirtual 28, 3) := by decide +kernel
theorem d_Z_law_312 : decode b_Z_law 312 = .ok (.aload_n 2, 1) := by decide +kernel
theorem d_Z_law_313 : decode b_Z_law 313 = .ok (.aload_n 0, 1) := by decide +kernel
theorem d_Z_law_314 : decode b_Z_law 314 = .ok (.iload_n 3, 1) := by decide +kernel
theorem d_Z_law_315 : decode b_Z_law 315 = .ok (.iconst 1, 1) := by decide +kernel
theorem d_Z_law_316 : decode b_Z_law 316 = .ok (.iadd, 1) := by decide +kernel
theorem d_Z_law_317 : decode b_Z_law 317 = .ok (.iaload, 1) := by decide +kernel
theorem d_Z_law_318 : decode b_Z_law 318 = .ok (.aload_n 0, 1) := by decide +kernel
theorem d_Z_law_319 : decode b_Z_law 319 = .ok (.iload_n 3, 1) := by decide +kernel
theorem d_Z_law_320 : decode b_Z_law 320 = .ok (.iconst 2, 1) := by decide +kernel
theorem d_Z_law_321 : decode b_Z_law 321 = .ok (.iadd, 1) := by decide +kernel
theorem d_Z_law_322 : decode b_Z_law 322 = .ok (.iaload, 1) := by decide +kernel
theorem d_Z_law_323 : decode b_Z_law 323 = .ok (.aload_n 0, 1) := by decide +kernel
theorem d_Z_law_324 : decode b_Z_law 324 = .ok (.iload_n 3, 1) := by decide +kernel
theorem d_Z_law_325 : decode b_Z_law 325 = .ok (.iconst 3, 1) := by decide +kernel
theorem d_Z_law_326 : decode b_Z_law 326 = .ok (.iadd, 1) := by decide +kernel
theorem d_Z_law_327 : decode b_Z_law 327 = .ok (.iaload, 1) := by decide +kernel
theorem d_Z_law_328 : decode b_Z_law 328 = .ok (.invokevirtual 31, 3) := by decide +kernel
theorem d_Z_law_331 : decode b_Z_law 331 = .ok (.if_icmp .eq 634, 3) := by decide +kernel
theorem d_Z_law_334 : decode b_Z_law 334 = .ok (.iconst 0, 1) := by decide +kernel
theorem d_Z_law_335 : decode b_Z_law 335 = .ok (.ireturn, 1) := by decide +kernel
theorem d_Z_law_336 : decode b_Z_law 336 = .ok (.aload_n 1, 1) := by decide +kernel
theorem d_Z_law_337 : decode b_Z_law 337 = .ok (.aload_n 0, 1) := by decide +kernel
theorem d_Z_law_338 : decode b_Z_law 338 = .ok (.iload_n 3, 1) := by decide +kernel
theorem d_Z_law_339 : decode b_Z_law 339 = .ok (.iconst 1, 1) := by decide +kernel
theorem d_Z_law_340 : decode b_Z_law 340 = .ok (.iadd, 1) := by decide +kernel
theorem d_Z_law_341 : decode b_Z_law 341 = .ok (.iaload, 1) := by decide +kernel
theorem d_Z_law_342 : decode b_Z_law 342 = .ok (.aload_n 0, 1) := by decide +kernel
theorem d_Z_law_343 : decode b_Z_law 343 = .ok (.iload_n 3, 1) := by decide +kernel
theorem d_Z_law_344 : decode b_Z_law 344 = .ok (.iconst 2, 1) := by decide +kernel
theorem d_Z_law_345 : decode b_Z_law 345 = .ok (.iadd, 1) := by decide +kernel
theorem d_Z_law_346 : decode b_Z_law 346 = .ok (.iaload, 1) := by decide +kernel
theorem d_Z_law_347 : decode b_Z_law 347 = .ok (.aload_n 0, 1) := by decide +kernel
theorem d_Z_law_348 : decode b_Z_law 348 = .ok (.iload_n 3, 1) := by decide +kernel
theorem d_Z_law_349 : decode b_Z_law 349 = .ok (.iconst 3, 1) := by decide +kernel
theorem d_Z_law_350 : decode b_Z_law 350 = .ok (.iadd, 1) := by decide +kernel
theorem d_Z_law_351 : decode b_Z_law 351 = .ok (.iaload, 1) := by decide +kernel
theorem d_Z_law_352 : decode b_Z_law 352 = .ok (.invokevirtual 32, 3) := by decide +kernel
theorem d_Z_law_355 : decode b_Z_law 355 = .ok (.aload_n 2, 1) := by decide +kernel
theorem d_Z_law_356 : decode b_Z_law 356 = .ok (.aload_n 0, 1) := by decide +kernel
theorem d_Z_law_357 : decode b_Z_law 357 = .ok (.iload_n 3, 1) := by decide +kernel
theorem d_Z_law_358 : decode b_Z_law 358 = .ok (.iconst 1, 1) := by decide +kernel
theorem d_Z_law_359 : decode b_Z_law 359 = .ok (.iadd, 1) := by decide +kernel
theorem d_Z_law_360 : decode b_Z_law 360 = .ok (.iaload, 1) := by decide +kernel
theorem d_Z_law_361 : decode b_Z_law 361 = .ok (.aload_n 0, 1) := by decide +kernel
theorem d_Z_law_362 : decode b_Z_law 362 = .ok (.iload_n 3, 1) := by decide +kernel
theorem d_Z_law_363 : decode b_Z_law 363 = .ok (.iconst 2, 1) := by decide +kernel
theorem d_Z_law_364 : decode b_Z_law 364 = .ok (.iadd, 1) := by decide +kernel
theorem d_Z_law_365 : decode b_Z_law 365 = .ok (.iaload, 1) := by decide +kernel
theorem d_Z_law_366 : decode b_Z_law 366 = .ok (.aload_n 0, 1) := by decide +kernel
theorem d_Z_law_367 : decode b_Z_law 367 = .ok (.iload_n 3, 1) := by decide +kernel
theorem d_Z_law_368 : decode b_Z_law 368 = .ok (.iconst 3, 1) := by decide +kernel
theorem d_Z_law_369 : decode b_Z_law 369 = .ok (.iadd, 1) := by decide +kernel
theorem d_Z_law_370 : decode b_Z_law 370 = .ok (.iaload, 1) := by decide +kernel
theorem d_Z_law_371 : decode b_Z_law 371 = .ok (.invokevirtual 35, 3) := by decide +kernel
theorem d_Z_law_374 : decode b_Z_law 374 = .ok (.if_icmp .eq 591, 3) := by decide +kernel
theorem d_Z_law_377 : decode b_Z_law 377 = .ok (.iconst 0, 1) := by decide +kernel
theorem d_Z_law_378 : decode b_Z_law 378 = .ok (.ireturn, 1) := by decide +kernel
theorem d_Z_law_379 : decode b_Z_law 379 = .ok (.aload_n 1, 1) := by decide +kernel
theorem d_Z_law_380 : decode b_Z_law 380 = .ok (.aload_n 0, 1) := by decide +kernel
theorem d_Z_law_381 : decode b_Z_law 381 = .ok (.iload_n 3, 1) := by decide +kernel
theorem d_Z_law_382 : decode b_Z_law 382 = .ok (.iconst 1, 1) := by decide +kernel
theorem d_Z_law_383 : decode b_Z_law 383 = .ok (.iadd, 1) := by decide +kernel
theorem d_Z_law_384 : decode b_Z_law 384 = .ok (.iaload, 1) := by decide +kernel
theorem d_Z_law_385 : decode b_Z_law 385 = .ok (.invokevirtual 36, 3) := by decide +kernel
theorem d_Z_law_388 : decode b_Z_law 388 = .ok (.aload_n 2, 1) := by decide +kernel
theorem d_Z_law_389 : decode b_Z_law 389 = .ok (.aload_n 0, 1) := by decide +kernel
theorem d_Z_law_390 : decode b_Z_law 390 = .ok (.iload_n 3, 1) := by decide +kernel
theorem d_Z_law_391 : decode b_Z_law 391 = .ok (.iconst 1, 1) := by decide +kernel
theorem d_Z_law_392 : decode b_Z_law 392 = .ok (.iadd, 1) := by decide +kernel
theorem d_Z_law_393 : decode b_Z_law 393 = .ok (.iaload, 1) := by decide +kernel
theorem d_Z_law_394 : decode b_Z_law 394 = .ok (.invokevirtual 40, 3) := by decide +kernel
theorem d_Z_law_397 : decode b_Z_law 397 = .ok (.if_icmp .eq 568, 3) := by decide +kernel
theorem d_Z_law_400 : decode b_Z_law 400 = .ok (.iconst 0, 1) := by decide +kernel
theorem d_Z_law_401 : decode b_Z_law 401 = .ok (.ireturn, 1) := by decide +kernel
theorem d_Z_law_402 : decode b_Z_law 402 = .ok (.aload_n 1, 1) := by decide +kernel
theorem d_Z_law_403 : decode b_Z_law 403 = .ok (.aload_n 0, 1) := by decide +kernel
theorem d_Z_law_404 : decode b_Z_law 404 = .ok (.iload_n 3, 1) := by decide +kernel
theorem d_Z_law_405 : decode b_Z_law 405 = .ok (.iconst 1, 1) := by decide +kernel
theorem d_Z_law_406 : decode b_Z_law 406 = .ok (.iadd, 1) := by decide +kernel
theorem d_Z_law_407 : decode b_Z_law 407 = .ok (.iaload, 1) := by decide +kernel
theorem d_Z_law_408 : decode b_Z_law 408 = .ok (.aload_n 0, 1) := by decide +kernel
theorem d_Z_law_409 : decode b_Z_law 409 = .ok (.iload_n 3, 1) := by decide +kernel
theorem d_Z_law_410 : decode b_Z_law 410 = .ok (.iconst 2, 1) := by decide +kernel
theorem d_Z_law_411 : decode b_Z_law 411 = .ok (.iadd, 1) := by decide +kernel
theorem d_Z_law_412 : decode b_Z_law 412 = .ok (.iaload, 1) := by decide +kernel
theorem d_Z_law_413 : decode b_Z_law 413 = .ok (.invokevirtual 41, 3) := by decide +kernel
theorem d_Z_law_416 : decode b_Z_law 416 = .ok (.aload_n 2, 1) := by decide +kernel
theorem d_Z_law_417 : decode b_Z_law 417 = .ok (.aload_n 0, 1) := by decide +kernel
theorem d_Z_law_418 : decode b_Z_law 418 = .ok (.iload_n 3, 1) := by decide +kernel
theorem d_Z_law_419 : decode b_Z_law 419 = .ok (.iconst 1, 1) := by decide +kernel
theorem d_Z_law_420 : decode b_Z_law 420 = .ok (.iadd, 1) := by decide +kernel
theorem d_Z_law_421 : decode b_Z_law 421 = .ok (.iaload, 1) := by decide +kernel
theorem d_Z_law_422 : decode b_Z_law 422 = .ok (.aload_n 0, 1) := by decide +kernel
theorem d_Z_law_423 : decode b_Z_law 423 = .ok (.iload_n 3, 1) := by decide +kernel
theorem d_Z_law_424 : decode b_Z_law 424 = .ok (.iconst 2, 1) := by decide +kernel
theorem d_Z_law_425 : decode b_Z_law 425 = .ok (.iadd, 1) := by decide +kernel
theorem d_Z_law_426 : decode b_Z_law 426 = .ok (.iaload, 1) := by decide +kernel
theorem d_Z_law_427 : decode b_Z_law 427 = .ok (.invokevirtual 45, 3) := by decide +kernel
theorem d_Z_law_430 : decode b_Z_law 430 = .ok (.if_icmp .eq 535, 3) := by decide +kernel
theorem d_Z_law_433 : decode b_Z_law 433 = .ok (.iconst 0, 1) := by decide +kernel
theorem d_Z_law_434 : decode b_Z_law 434 = .ok (.ireturn, 1) := by decide +kernel
theorem d_Z_law_435 : decode b_Z_law 435 = .ok (.aload_n 1, 1) := by decide +kernel
theorem d_Z_law_436 : decode b_Z_law 436 = .ok (.aload_n 0, 1) := by decide +kernel
theorem d_Z_law_437 : decode b_Z_law 437 = .ok (.iload_n 3, 1) := by decide +kernel
theorem d_Z_law_438 : decode b_Z_law 438 = .ok (.iconst 1, 1) := by decide +kernel
theorem d_Z_law_439 : decode b_Z_law 439 = .ok (.iadd, 1) := by decide +kernel
theorem d_Z_law_440 : decode b_Z_law 440 = .ok (.iaload, 1) := by decide +kernel
theorem d_Z_law_441 : decode b_Z_law 441 = .ok (.aload_n 0, 1) := by decide +kernel
theorem d_Z_law_442 : decode b_Z_law 442 = .ok (.iload_n 3, 1) := by decide +kernel
theorem d_Z_law_443 : decode b_Z_law 443 = .ok (.iconst 2, 1) := by decide +kernel
theorem d_Z_law_444 : decode b_Z_law 444 = .ok (.iadd, 1) := by decide +kernel
theorem d_Z_law_445 : decode b_Z_law 445 = .ok (.iaload, 1) := by decide +kernel
theorem d_Z_law_446 : decode b_Z_law 446 = .ok (.aload_n 0, 1) := by decide +kernel
theorem d_Z_law_447 : decode b_Z_law 447 = .ok (.iload_n 3, 1) := by decide +kernel
theorem d_Z_law_448 : decode b_Z_law 448 = .ok (.iconst 3, 1) := by decide +kernel
theorem d_Z_law_449 : decode b_Z_law 449 = .ok (.iadd, 1) := by decide +kernel
theorem d_Z_law_450 : decode b_Z_law 450 = .ok (.iaload, 1) := by decide +kernel
theorem d_Z_law_451 : decode b_Z_law 451 = .ok (.invokevirtual 46, 3) := by decide +kernel
theorem d_Z_law_454 : decode b_Z_law 454 = .ok (.aload_n 2, 1) := by decide +kernel
theorem d_Z_law_455 : decode b_Z_law 455 = .ok (.aload_n 0, 1) := by decide +kernel
theorem d_Z_law_456 : decode b_Z_law 456 = .ok (.iload_n 3, 1) := by decide +kernel
theorem d_Z_law_457 : decode b_Z_law 457 = .ok (.iconst 1, 1) := by decide +kernel
theorem d_Z_law_458 : decode b_Z_law 458 = .ok (.iadd, 1) := by decide +kernel
theorem d_Z_law_459 : decode b_Z_law 459 = .ok (.iaload, 1) := by decide +kernel
theorem d_Z_law_460 : decode b_Z_law 460 = .ok (.aload_n 0, 1) := by decide +kernel
theorem d_Z_law_461 : decode b_Z_law 461 = .ok (.iload_n 3, 1) := by decide +kernel
theorem d_Z_law_462 : decode b_Z_law 462 = .ok (.iconst 2, 1) := by decide +kernel
theorem d_Z_law_463 : decode b_Z_law 463 = .ok (.iadd, 1) := by decide +kernel
theorem d_Z_law_464 : decode b_Z_law 464 = .ok (.iaload, 1) := by decide +kernel
theorem d_Z_law_465 : decode b_Z_law 465 = .ok (.aload_n 0, 1) := by decide +kernel
theorem d_Z_law_466 : decode b_Z_law 466 = .ok (.iload_n 3, 1) := by decide +kernel
theorem d_Z_law_467 : decode b_Z_law 467 = .ok (.iconst 3, 1) := by decide +kernel
theorem d_Z_law_468 : decode b_Z_law 468 = .ok (.iadd, 1) := by decide +kernel
theorem d_Z_law_469 : decode b_Z_law 469 = .ok (.iaload, 1) := by decide +kernel
theorem d_Z_law_470 : decode b_Z_law 470 = .ok (.invokevirtual 50, 3) := by decide +kernel
theorem d_Z_law_473 : decode b_Z_law 473 = .ok (.if_icmp .eq 492, 3) := by decide +kernel
theorem d_Z_law_476 : decode b_Z_law 476 = .ok (.iconst 0, 1) := by decide +kernel
theorem d_Z_law_477 : decode b_Z_law 477 = .ok (.ireturn, 1) := by decide +kernel
theorem d_Z_law_478 : decode b_Z_law 478 = .ok (.aload_n 1, 1) := by decide +kernel
theorem d_Z_law_479 : decode b_Z_law 479 = .ok (.aload_n 0, 1) := by decide +kernel
theorem d_Z_law_480 : decode b_Z_law 480 = .ok (.iload_n 3, 1) := by decide +kernel
theorem d_Z_law_481 : decode b_Z_law 481 = .ok (.iconst 1, 1) := by decide +kernel
theorem d_Z_law_482 : decode b_Z_law 482 = .ok (.iadd, 1) := by decide +kernel
theorem d_Z_law_483 : decode b_Z_law 483 = .ok (.iaload, 1) := by decide +kernel
theorem d_Z_law_484 : decode b_Z_law 484 = .ok (.invokevirtual 51, 3) := by decide +kernel
theorem d_Z_law_487 : decode b_Z_law 487 = .ok (.aload_n 2, 1) := by decide +kernel
theorem d_Z_law_488 : decode b_Z_law 488 = .ok (.aload_n 0, 1) := by decide +kernel
theorem d_Z_law_489 : decode b_Z_law 489 = .ok (.iload_n 3, 1) := by decide +kernel
theorem d_Z_law_490 : decode b_Z_law 490 = .ok (.iconst 1, 1) := by decide +kernel
theorem d_Z_law_491 : decode b_Z_law 491 = .ok (.iadd, 1) := by decide +kernel
theorem d_Z_law_492 : decode b_Z_law 492 = .ok (.iaload, 1) := by decide +kernel
theorem d_Z_law_493 : decode b_Z_law 493 = .ok (.invokevirtual 54, 3) := by decide +kernel
theorem d_Z_law_496 : decode b_Z_law 496 = .ok (.if_icmp .eq 469, 3) := by decide +kernel
theorem d_Z_law_499 : decode b_Z_law 499 = .ok (.iconst 0, 1) := by decide +kernel
theorem d_Z_law_500 : decode b_Z_law 500 = .ok (.ireturn, 1) := by decide +kernel
theorem d_Z_law_501 : decode b_Z_law 501 = .ok (.aload_n 1, 1) := by decide +kernel
theorem d_Z_law_502 : decode b_Z_law 502 = .ok (.invokevirtual 55, 3) := by decide +kernel
theorem d_Z_law_505 : decode b_Z_law 505 = .ok (.aload_n 2, 1) := by decide +kernel
theorem d_Z_law_506 : decode b_Z_law 506 = .ok (.invokevirtual 59, 3) := by decide +kernel
theorem d_Z_law_509 : decode b_Z_law 509 = .ok (.if_icmp .eq 456, 3) := by decide +kernel
theorem d_Z_law_512 : decode b_Z_law 512 = .ok (.iconst 0, 1) := by decide +kernel
theorem d_Z_law_513 : decode b_Z_law 513 = .ok (.ireturn, 1) := by decide +kernel
theorem d_Z_law_514 : decode b_Z_law 514 = .ok (.aload_n 1, 1) := by decide +kernel
theorem d_Z_law_515 : decode b_Z_law 515 = .ok (.invokevirtual 60, 3) := by decide +kernel
theorem d_Z_law_518 : decode b_Z_law 518 = .ok (.aload_n 2, 1) := by decide +kernel
theorem d_Z_law_519 : decode b_Z_law 519 = .ok (.invokevirtual 64, 3) := by decide +kernel
theorem d_Z_law_522 : decode b_Z_law 522 = .ok (.if_icmp .eq 443, 3) := by decide +kernel
theorem d_Z_law_525 : decode b_Z_law 525 = .ok (.iconst 0, 1) := by decide +kernel
theorem d_Z_law_526 : decode b_Z_law 526 = .ok (.ireturn, 1) := by decide +kernel
theorem d_Z_law_527 : decode b_Z_law 527 = .ok (.aload_n 1, 1) := by decide +kernel
theorem d_Z_law_528 : decode b_Z_law 528 = .ok (.aload_n 0, 1) := by decide +kernel
theorem d_Z_law_529 : decode b_Z_law 529 = .ok (.iload_n 3, 1) := by decide +kernel
theorem d_Z_law_530 : decode b_Z_law 530 = .ok (.iconst 1, 1) := by decide +kernel
theorem d_Z_law_531 : decode b_Z_law 531 = .ok (.iadd, 1) := by decide +kernel
theorem d_Z_law_532 : decode b_Z_law 532 = .ok (.iaload, 1) := by decide +kernel
theorem d_Z_law_533 : decode b_Z_law 533 = .ok (.aload_n 0, 1) := by decide +kernel
theorem d_Z_law_534 : decode b_Z_law 534 = .ok (.iload_n 3, 1) := by decide +kernel
theorem d_Z_law_535 : decode b_Z_law 535 = .ok (.iconst 2, 1) := by decide +kernel
theorem d_Z_law_536 : decode b_Z_law 536 = .ok (.iadd, 1) := by decide +kernel
theorem d_Z_law_537 : decode b_Z_law 537 = .ok (.iaload, 1) := by decide +kernel
theorem d_Z_law_538 : decode b_Z_law 538 = .ok (.invokevirtual 65, 3) := by decide +kernel
theorem d_Z_law_541 : decode b_Z_law 541 = .ok (.aload_n 2, 1) := by decide +kernel
theorem d_Z_law_542 : decode b_Z_law 542 = .ok (.aload_n 0, 1) := by decide +kernel
theorem d_Z_law_543 : decode b_Z_law 543 = .ok (.iload_n 3, 1) := by decide +kernel
theorem d_Z_law_544 : decode b_Z_law 544 = .ok (.iconst 1, 1) := by decide +kernel
theorem d_Z_law_545 : decode b_Z_law 545 = .ok (.iadd, 1) := by decide +kernel
theorem d_Z_law_546 : decode b_Z_law 546 = .ok (.iaload, 1) := by decide +kernel
theorem d_Z_law_547 : decode b_Z_law 547 = .ok (.aload_n 0, 1) := by decide +kernel
theorem d_Z_law_548 : decode b_Z_law 548 = .ok (.iload_n 3, 1) := by decide +kernel
theorem d_Z_law_549 : decode b_Z_law 549 = .ok (.iconst 2, 1) := by decide +kernel
theorem d_Z_law_550 : decode b_Z_law 550 = .ok (.iadd, 1) := by decide +kernel
theorem d_Z_law_551 : decode b_Z_law 551 = .ok (.iaload, 1) := by decide +kernel
theorem d_Z_law_552 : decode b_Z_law 552 = .ok (.invokevirtual 68, 3) := by decide +kernel
theorem d_Z_law_555 : decode b_Z_law 555 = .ok (.if_icmp .eq 410, 3) := by decide +kernel
theorem d_Z_law_558 : decode b_Z_law 558 = .ok (.iconst 0, 1) := by decide +kernel
theorem d_Z_law_559 : decode b_Z_law 559 = .ok (.ireturn, 1) := by decide +kernel
theorem d_Z_law_560 : decode b_Z_law 560 = .ok (.aload_n 1, 1) := by decide +kernel
theorem d_Z_law_561 : decode b_Z_law 561 = .ok (.aload_n 0, 1) := by decide +kernel
theorem d_Z_law_562 : decode b_Z_law 562 = .ok (.iload_n 3, 1) := by decide +kernel
theorem d_Z_law_563 : decode b_Z_law 563 = .ok (.iconst 1, 1) := by decide +kernel
theorem d_Z_law_564 : decode b_Z_law 564 = .ok (.iadd, 1) := by decide +kernel
theorem d_Z_law_565 : decode b_Z_law 565 = .ok (.iaload, 1) := by decide +kernel
theorem d_Z_law_566 : decode b_Z_law 566 = .ok (.aload_n 0, 1) := by decide +kernel
theorem d_Z_law_567 : decode b_Z_law 567 = .ok (.iload_n 3, 1) := by decide +kernel
theorem d_Z_law_568 : decode b_Z_law 568 = .ok (.iconst 2, 1) := by decide +kernel
theorem d_Z_law_569 : decode b_Z_law 569 = .ok (.iadd, 1) := by decide +kernel
theorem d_Z_law_570 : decode b_Z_law 570 = .ok (.iaload, 1) := by decide +kernel
theorem d_Z_law_571 : decode b_Z_law 571 = .ok (.invokevirtual 69, 3) := by decide +kernel
theorem d_Z_law_574 : decode b_Z_law 574 = .ok (.aload_n 2, 1) := by decide +kernel
theorem d_Z_law_575 : decode b_Z_law 575 = .ok (.aload_n 0, 1) := by decide +kernel
theorem d_Z_law_576 : decode b_Z_law 576 = .ok (.iload_n 3, 1) := by decide +kernel
theorem d_Z_law_577 : decode b_Z_law 577 = .ok (.iconst 1, 1) := by decide +kernel
theorem d_Z_law_578 : decode b_Z_law 578 = .ok (.iadd, 1) := by decide +kernel
theorem d_Z_law_579 : decode b_Z_law 579 = .ok (.iaload, 1) := by decide +kernel
theorem d_Z_law_580 : decode b_Z_law 580 = .ok (.aload_n 0, 1) := by decide +kernel
theorem d_Z_law_581 : decode b_Z_law 581 = .ok (.iload_n 3, 1) := by decide +kernel
theorem d_Z_law_582 : decode b_Z_law 582 = .ok (.iconst 2, 1) := by decide +kernel
theorem d_Z_law_583 : decode b_Z_law 583 = .ok (.iadd, 1) := by decide +kernel
theorem d_Z_law_584 : decode b_Z_law 584 = .ok (.iaload, 1) := by decide +kernel
theorem d_Z_law_585 : decode b_Z_law 585 = .ok (.invokevirtual 72, 3) := by decide +kernel
theorem d_Z_law_588 : decode b_Z_law 588 = .ok (.if_icmp .eq 377, 3) := by decide +kernel
theorem d_Z_law_591 : decode b_Z_law 591 = .ok (.iconst 0, 1) := by decide +kernel
theorem d_Z_law_592 : decode b_Z_law 592 = .ok (.ireturn, 1) := by decide +kernel
theorem d_Z_law_593 : decode b_Z_law 593 = .ok (.aload_n 1, 1) := by decide +kernel
theorem d_Z_law_594 : decode b_Z_law 594 = .ok (.aload_n 0, 1) := by decide +kernel
theorem d_Z_law_595 : decode b_Z_law 595 = .ok (.iload_n 3, 1) := by decide +kernel
theorem d_Z_law_596 : decode b_Z_law 596 = .ok (.iconst 1, 1) := by decide +kernel
theorem d_Z_law_597 : decode b_Z_law 597 = .ok (.iadd, 1) := by decide +kernel
theorem d_Z_law_598 : decode b_Z_law 598 = .ok (.iaload, 1) := by decide +kernel
theorem d_Z_law_599 : decode b_Z_law 599 = .ok (.aload_n 0, 1) := by decide +kernel
theorem d_Z_law_600 : decode b_Z_law 600 = .ok (.iload_n 3, 1) := by decide +kernel
theorem d_Z_law_601 : decode b_Z_law 601 = .ok (.iconst 2, 1) := by decide +kernel
theorem d_Z_law_602 : decode b_Z_law 602 = .ok (.iadd, 1) := by decide +kernel
theorem d_Z_law_603 : decode b_Z_law 603 = .ok (.iaload, 1) := by decide +kernel
theorem d_Z_law_604 : decode b_Z_law 604 = .ok (.aload_n 0, 1) := by decide +kernel
theorem d_Z_law_605 : decode b_Z_law 605 = .ok (.iload_n 3, 1) := by decide +kernel
theorem d_Z_law_606 : decode b_Z_law 606 = .ok (.iconst 3, 1) := by decide +kernel
theorem d_Z_law_607 : decode b_Z_law 607 = .ok (.iadd, 1) := by decide +kernel
theorem d_Z_law_608 : decode b_Z_law 608 = .ok (.iaload, 1) := by decide +kernel
theorem d_Z_law_609 : decode b_Z_law 609 = .ok (.ifCond .eq 7, 3) := by decide +kernel
theorem d_Z_law_612 : decode b_Z_law 612 = .ok (.iconst 1, 1) := by decide +kernel
theorem d_Z_law_613 : decode b_Z_law 613 = .ok (.goto 4, 3) := by decide +kernel
theorem d_Z_law_616 : decode b_Z_law 616 = .ok (.iconst 0, 1) := by decide +kernel
theorem d_Z_law_617 : decode b_Z_law 617 = .ok (.aload_n 0, 1) := by decide +kernel
theorem d_Z_law_618 : decode b_Z_law 618 = .ok (.iload_n 3, 1) := by decide +kernel
theorem d_Z_law_619 : decode b_Z_law 619 = .ok (.iconst 4, 1) := by decide +kernel
theorem d_Z_law_620 : decode b_Z_law 620 = .ok (.iadd, 1) := by decide +kernel
theorem d_Z_law_621 : decode b_Z_law 621 = .ok (.iaload, 1) := by decide +kernel
theorem d_Z_law_622 : decode b_Z_law 622 = .ok (.invokevirtual 73, 3) := by decide +kernel
theorem d_Z_law_625 : decode b_Z_law 625 = .ok (.aload_n 2, 1) := by decide +kernel
theorem d_Z_law_626 : decode b_Z_law 626 = .ok (.aload_n 0, 1) := by decide +kernel
theorem d_Z_law_627 : decode b_Z_law 627 = .ok (.iload_n 3, 1) := by decide +kernel
theorem d_Z_law_628 : decode b_Z_law 628 = .ok (.iconst 1, 1) := by decide +kernel
theorem d_Z_law_629 : decode b_Z_law 629 = .ok (.iadd, 1) := by decide +kernel
theorem d_Z_law_630 : decode b_Z_law 630 = .ok (.iaload, 1) := by decide +kernel
theorem d_Z_law_631 : decode b_Z_law 631 = .ok (.aload_n 0, 1) := by decide +kernel
theorem d_Z_law_632 : decode b_Z_law 632 = .ok (.iload_n 3, 1) := by decide +kernel
theorem d_Z_law_633 : decode b_Z_law 633 = .ok (.iconst 2, 1) := by decide +kernel
theorem d_Z_law_634 : decode b_Z_law 634 = .ok (.iadd, 1) := by decide +kernel
theorem d_Z_law_635 : decode b_Z_law 635 = .ok (.iaload, 1) := by decide +kernel
theorem d_Z_law_636 : decode b_Z_law 636 = .ok (.aload_n 0, 1) := by decide +kernel
theorem d_Z_law_637 : decode b_Z_law 637 = .ok (.iload_n 3, 1) := by decide +kernel
theorem d_Z_law_638 : decode b_Z_law 638 = .ok (.iconst 3, 1) := by decide +kernel
theorem d_Z_law_639 : decode b_Z_law 639 = .ok (.iadd, 1) := by decide +kernel
theorem d_Z_law_640 : decode b_Z_law 640 = .ok (.iaload, 1) := by decide +kernel
theorem d_Z_law_641 : decode b_Z_law 641 = .ok (.ifCond .eq 7, 3) := by decide +kernel
theorem d_Z_law_644 : decode b_Z_law 644 = .ok (.iconst 1, 1) := by decide +kernel
theorem d_Z_law_645 : decode b_Z_law 645 = .ok (.goto 4, 3) := by decide +kernel
theorem d_Z_law_648 : decode b_Z_law 648 = .ok (.iconst 0, 1) := by decide +kernel
theorem d_Z_law_649 : decode b_Z_law 649 = .ok (.aload_n 0, 1) := by decide +kernel
theorem d_Z_law_650 : decode b_Z_law 650 = .ok (.iload_n 3, 1) := by decide +kernel
theorem d_Z_law_651 : decode b_Z_law 651 = .ok (.iconst 4, 1) := by decide +kernel
theorem d_Z_law_652 : decode b_Z_law 652 = .ok (.iadd, 1) := by decide +kernel
theorem d_Z_law_653 : decode b_Z_law 653 = .ok (.iaload, 1) := by decide +kernel
theorem d_Z_law_654 : decode b_Z_law 654 = .ok (.invokevirtual 77, 3) := by decide +kernel
theorem d_Z_law_657 : decode b_Z_law 657 = .ok (.if_icmp .eq 308, 3) := by decide +kernel
theorem d_Z_law_660 : decode b_Z_law 660 = .ok (.iconst 0, 1) := by decide +kernel
theorem d_Z_law_661 : decode b_Z_law 661 = .ok (.ireturn, 1) := by decide +kernel
theorem d_Z_law_662 : decode b_Z_law 662 = .ok (.aload_n 1, 1) := by decide +kernel
theorem d_Z_law_663 : decode b_Z_law 663 = .ok (.aload_n 0, 1) := by decide +kernel
theorem d_Z_law_664 : decode b_Z_law 664 = .ok (.iload_n 3, 1) := by decide +kernel
theorem d_Z_law_665 : decode b_Z_law 665 = .ok (.iconst 1, 1) := by decide +kernel
theorem d_Z_law_666 : decode b_Z_law 666 = .ok (.iadd, 1) := by decide +kernel
theorem d_Z_law_667 : decode b_Z_law 667 = .ok (.iaload, 1) := by decide +kernel
theorem d_Z_law_668 : decode b_Z_law 668 = .ok (.aload_n 0, 1) := by decide +kernel
theorem d_Z_law_669 : decode b_Z_law 669 = .ok (.iload_n 3, 1) := by decide +kernel
theorem d_Z_law_670 : decode b_Z_law 670 = .ok (.iconst 2, 1) := by decide +kernel
theorem d_Z_law_671 : decode b_Z_law 671 = .ok (.iadd, 1) := by decide +kernel
theorem d_Z_law_672 : decode b_Z_law 672 = .ok (.iaload, 1) := by decide +kernel
theorem d_Z_law_673 : decode b_Z_law 673 = .ok (.invokevirtual 78, 3) := by decide +kernel
theorem d_Z_law_676 : decode b_Z_law 676 = .ok (.aload_n 2, 1) := by decide +kernel
theorem d_Z_law_677 : decode b_Z_law 677 = .ok (.aload_n 0, 1) := by decide +kernel
theorem d_Z_law_678 : decode b_Z_law 678 = .ok (.iload_n 3, 1) := by decide +kernel
theorem d_Z_law_679 : decode b_Z_law 679 = .ok (.iconst 1, 1) := by decide +kernel
theorem d_Z_law_680 : decode b_Z_law 680 = .ok (.iadd, 1) := by decide +kernel
theorem d_Z_law_681 : decode b_Z_law 681 = .ok (.iaload, 1) := by decide +kernel
theorem d_Z_law_682 : decode b_Z_law 682 = .ok (.aload_n 0, 1) := by decide +kernel
theorem d_Z_law_683 : decode b_Z_law 683 = .ok (.iload_n 3, 1) := by decide +kernel
theorem d_Z_law_684 : decode b_Z_law 684 = .ok (.iconst 2, 1) := by decide +kernel
theorem d_Z_law_685 : decode b_Z_law 685 = .ok (.iadd, 1) := by decide +kernel
theorem d_Z_law_686 : decode b_Z_law 686 = .ok (.iaload, 1) := by decide +kernel
theorem d_Z_law_687 : decode b_Z_law 687 = .ok (.invokevirtual 82, 3) := by decide +kernel
theorem d_Z_law_690 : decode b_Z_law 690 = .ok (.if_icmp .eq 275, 3) := by decide +kernel
theorem d_Z_law_693 : decode b_Z_law 693 = .ok (.iconst 0, 1) := by decide +kernel
theorem d_Z_law_694 : decode b_Z_law 694 = .ok (.ireturn, 1) := by decide +kernel
theorem d_Z_law_695 : decode b_Z_law 695 = .ok (.aload_n 1, 1) := by decide +kernel
theorem d_Z_law_696 : decode b_Z_law 696 = .ok (.aload_n 0, 1) := by decide +kernel
theorem d_Z_law_697 : decode b_Z_law 697 = .ok (.iload_n 3, 1) := by decide +kernel
theorem d_Z_law_698 : decode b_Z_law 698 = .ok (.iconst 1, 1) := by decide +kernel
theorem d_Z_law_699 : decode b_Z_law 699 = .ok (.iadd, 1) := by decide +kernel
theorem d_Z_law_700 : decode b_Z_law 700 = .ok (.iaload, 1) := by decide +kernel
theorem d_Z_law_701 : decode b_Z_law 701 = .ok (.aload_n 0, 1) := by decide +kernel
theorem d_Z_law_702 : decode b_Z_law 702 = .ok (.iload_n 3, 1) := by decide +kernel
theorem d_Z_law_703 : decode b_Z_law 703 = .ok (.iconst 2, 1) := by decide +kernel
theorem d_Z_law_704 : decode b_Z_law 704 = .ok (.iadd, 1) := by decide +kernel
theorem d_Z_law_705 : decode b_Z_law 705 = .ok (.iaload, 1) := by decide +kernel
theorem d_Z_law_706 : decode b_Z_law 706 = .ok (.invokevirtual 83, 3) := by decide +kernel
theorem d_Z_law_709 : decode b_Z_law 709 = .ok (.aload_n 2, 1) := by decide +kernel
theorem d_Z_law_710 : decode b_Z_law 710 = .ok (.aload_n 0, 1) := by decide +kernel
theorem d_Z_law_711 : decode b_Z_law 711 = .ok (.iload_n 3, 1) := by decide +kernel
theorem d_Z_law_712 : decode b_Z_law 712 = .ok (.iconst 1, 1) := by decide +kernel
theorem d_Z_law_713 : decode b_Z_law 713 = .ok (.iadd, 1) := by decide +kernel
theorem d_Z_law_714 : decode b_Z_law 714 = .ok (.iaload, 1) := by decide +kernel
theorem d_Z_law_715 : decode b_Z_law 715 = .ok (.aload_n 0, 1) := by decide +kernel
theorem d_Z_law_716 : decode b_Z_law 716 = .ok (.iload_n 3, 1) := by decide +kernel
theorem d_Z_law_717 : decode b_Z_law 717 = .ok (.iconst 2, 1) := by decide +kernel
theorem d_Z_law_718 : decode b_Z_law 718 = .ok (.iadd, 1) := by decide +kernel
theorem d_Z_law_719 : decode b_Z_law 719 = .ok (.iaload, 1) := by decide +kernel
theorem d_Z_law_720 : decode b_Z_law 720 = .ok (.invokevirtual 86, 3) := by decide +kernel
theorem d_Z_law_723 : decode b_Z_law 723 = .ok (.if_icmp .eq 242, 3) := by decide +kernel
theorem d_Z_law_726 : decode b_Z_law 726 = .ok (.iconst 0, 1) := by decide +kernel
theorem d_Z_law_727 : decode b_Z_law 727 = .ok (.ireturn, 1) := by decide +kernel
theorem d_Z_law_728 : decode b_Z_law 728 = .ok (.aload_n 1, 1) := by decide +kernel
theorem d_Z_law_729 : decode b_Z_law 729 = .ok (.invokevirtual 87, 3) := by decide +kernel
theorem d_Z_law_732 : decode b_Z_law 732 = .ok (.aload_n 2, 1) := by decide +kernel
theorem d_Z_law_733 : decode b_Z_law 733 = .ok (.invokevirtual 90, 3) := by decide +kernel
theorem d_Z_law_736 : decode b_Z_law 736 = .ok (.if_icmp .eq 229, 3) := by decide +kernel
theorem d_Z_law_739 : decode b_Z_law 739 = .ok (.iconst 0, 1) := by decide +kernel
theorem d_Z_law_740 : decode b_Z_law 740 = .ok (.ireturn, 1) := by decide +kernel
theorem d_Z_law_741 : decode b_Z_law 741 = .ok (.aload_n 1, 1) := by decide +kernel
theorem d_Z_law_742 : decode b_Z_law 742 = .ok (.aload_n 0, 1) := by decide +kernel
theorem d_Z_law_743 : decode b_Z_law 743 = .ok (.iload_n 3, 1) := by decide +kernel
theorem d_Z_law_744 : decode b_Z_law 744 = .ok (.iconst 1, 1) := by decide +kernel
theorem d_Z_law_745 : decode b_Z_law 745 = .ok (.iadd, 1) := by decide +kernel
theorem d_Z_law_746 : decode b_Z_law 746 = .ok (.iaload, 1) := by decide +kernel
theorem d_Z_law_747 : decode b_Z_law 747 = .ok (.invokevirtual 91, 3) := by decide +kernel
theorem d_Z_law_750 : decode b_Z_law 750 = .ok (.aload_n 2, 1) := by decide +kernel
theorem d_Z_law_751 : decode b_Z_law 751 = .ok (.aload_n 0, 1) := by decide +kernel
theorem d_Z_law_752 : decode b_Z_law 752 = .ok (.iload_n 3, 1) := by decide +kernel
theorem d_Z_law_753 : decode b_Z_law 753 = .ok (.iconst 1, 1) := by decide +kernel
theorem d_Z_law_754 : decode b_Z_law 754 = .ok (.iadd, 1) := by decide +kernel
theorem d_Z_law_755 : decode b_Z_law 755 = .ok (.iaload, 1) := by decide +kernel
theorem d_Z_law_756 : decode b_Z_law 756 = .ok (.invokevirtual 94, 3) := by decide +kernel
theorem d_Z_law_759 : decode b_Z_law 759 = .ok (.if_icmp .eq 206, 3) := by decide +kernel
theorem d_Z_law_762 : decode b_Z_law 762 = .ok (.iconst 0, 1) := by decide +kernel
theorem d_Z_law_763 : decode b_Z_law 763 = .ok (.ireturn, 1) := by decide +kernel
theorem d_Z_law_764 : decode b_Z_law 764 = .ok (.aload_n 1, 1) := by decide +kernel
theorem d_Z_law_765 : decode b_Z_law 765 = .ok (.aload_n 0, 1) := by decide +kernel
theorem d_Z_law_766 : decode b_Z_law 766 = .ok (.iload_n 3, 1) := by decide +kernel
theorem d_Z_law_767 : decode b_Z_law 767 = .ok (.iconst 1, 1) := by decide +kernel
theorem d_Z_law_768 : decode b_Z_law 768 = .ok (.iadd, 1) := by decide +kernel
theorem d_Z_law_769 : decode b_Z_law 769 = .ok (.iaload, 1) := by decide +kernel
theorem d_Z_law_770 : decode b_Z_law 770 = .ok (.aload_n 0, 1) := by decide +kernel
theorem d_Z_law_771 : decode b_Z_law 771 = .ok (.iload_n 3, 1) := by decide +kernel
theorem d_Z_law_772 : decode b_Z_law 772 = .ok (.iconst 2, 1) := by decide +kernel
theorem d_Z_law_773 : decode b_Z_law 773 = .ok (.iadd, 1) := by decide +kernel
theorem d_Z_law_774 : decode b_Z_law 774 = .ok (.iaload, 1) := by decide +kernel
theorem d_Z_law_775 : decode b_Z_law 775 = .ok (.invokevirtual 95, 3) := by decide +kernel
theorem d_Z_law_778 : decode b_Z_law 778 = .ok (.aload_n 2, 1) := by decide +kernel
theorem d_Z_law_779 : decode b_Z_law 779 = .ok (.aload_n 0, 1) := by decide +kernel
theorem d_Z_law_780 : decode b_Z_law 780 = .ok (.iload_n 3, 1) := by decide +kernel
theorem d_Z_law_781 : decode b_Z_law 781 = .ok (.iconst 1, 1) := by decide +kernel
theorem d_Z_law_782 : decode b_Z_law 782 = .ok (.iadd, 1) := by decide +kernel
theorem d_Z_law_783 : decode b_Z_law 783 = .ok (.iaload, 1) := by decide +kernel
theorem d_Z_law_784 : decode b_Z_law 784 = .ok (.aload_n 0, 1) := by decide +kernel
theorem d_Z_law_785 : decode b_Z_law 785 = .ok (.iload_n 3, 1) := by decide +kernel
theorem d_Z_law_786 : decode b_Z_law 786 = .ok (.iconst 2, 1) := by decide +kernel
theorem d_Z_law_787 : decode b_Z_law 787 = .ok (.iadd, 1) := by decide +kernel
theorem d_Z_law_788 : decode b_Z_law 788 = .ok (.iaload, 1) := by decide +kernel
theorem d_Z_law_789 : decode b_Z_law 789 = .ok (.invokevirtual 98, 3) := by decide +kernel
theorem d_Z_law_792 : decode b_Z_law 792 = .ok (.if_icmp .eq 173, 3) := by decide +kernel
theorem d_Z_law_795 : decode b_Z_law 795 = .ok (.iconst 0, 1) := by decide +kernel
theorem d_Z_law_796 : decode b_Z_law 796 = .ok (.ireturn, 1) := by decide +kernel
theorem d_Z_law_797 : decode b_Z_law 797 = .ok (.aload_n 1, 1) := by decide +kernel
theorem d_Z_law_798 : decode b_Z_law 798 = .ok (.aload_n 0, 1) := by decide +kernel
theorem d_Z_law_799 : decode b_Z_law 799 = .ok (.iload_n 3, 1) := by decide +kernel
theorem d_Z_law_800 : decode b_Z_law 800 = .ok (.iconst 1, 1) := by decide +kernel
theorem d_Z_law_801 : decode b_Z_law 801 = .ok (.iadd, 1) := by decide +kernel
theorem d_Z_law_802 : decode b_Z_law 802 = .ok (.iaload, 1) := by decide +kernel
theorem d_Z_law_803 : decode b_Z_law 803 = .ok (.invokevirtual 99, 3) := by decide +kernel
theorem d_Z_law_806 : decode b_Z_law 806 = .ok (.aload_n 2, 1) := by decide +kernel
theorem d_Z_law_807 : decode b_Z_law 807 = .ok (.aload_n 0, 1) := by decide +kernel
theorem d_Z_law_808 : decode b_Z_law 808 = .ok (.iload_n 3, 1) := by decide +kernel
theorem d_Z_law_809 : decode b_Z_law 809 = .ok (.iconst 1, 1) := by decide +kernel
theorem d_Z_law_810 : decode b_Z_law 810 = .ok (.iadd, 1) := by decide +kernel
theorem d_Z_law_811 : decode b_Z_law 811 = .ok (.iaload, 1) := by decide +kernel
theorem d_Z_law_812 : decode b_Z_law 812 = .ok (.invokevirtual 102, 3) := by decide +kernel
theorem d_Z_law_815 : decode b_Z_law 815 = .ok (.if_icmp .eq 150, 3) := by decide +kernel
theorem d_Z_law_818 : decode b_Z_law 818 = .ok (.iconst 0, 1) := by decide +kernel
theorem d_Z_law_819 : decode b_Z_law 819 = .ok (.ireturn, 1) := by decide +kernel
theorem d_Z_law_820 : decode b_Z_law 820 = .ok (.aload_n 1, 1) := by decide +kernel
theorem d_Z_law_821 : decode b_Z_law 821 = .ok (.aload_n 0, 1) := by decide +kernel
theorem d_Z_law_822 : decode b_Z_law 822 = .ok (.iload_n 3, 1) := by decide +kernel
theorem d_Z_law_823 : decode b_Z_law 823 = .ok (.iconst 1, 1) := by decide +kernel
theorem d_Z_law_824 : decode b_Z_law 824 = .ok (.iadd, 1) := by decide +kernel
theorem d_Z_law_825 : decode b_Z_law 825 = .ok (.iaload, 1) := by decide +kernel
theorem d_Z_law_826 : decode b_Z_law 826 = .ok (.invokevirtual 103, 3) := by decide +kernel
theorem d_Z_law_829 : decode b_Z_law 829 = .ok (.aload_n 2, 1) := by decide +kernel
theorem d_Z_law_830 : decode b_Z_law 830 = .ok (.aload_n 0, 1) := by decide +kernel
theorem d_Z_law_831 : decode b_Z_law 831 = .ok (.iload_n 3, 1) := by decide +kernel
theorem d_Z_law_832 : decode b_Z_law 832 = .ok (.iconst 1, 1) := by decide +kernel
theorem d_Z_law_833 : decode b_Z_law 833 = .ok (.iadd, 1) := by decide +kernel
theorem d_Z_law_834 : decode b_Z_law 834 = .ok (.iaload, 1) := by decide +kernel
theorem d_Z_law_835 : decode b_Z_law 835 = .ok (.invokevirtual 106, 3) := by decide +kernel
theorem d_Z_law_838 : decode b_Z_law 838 = .ok (.if_icmp .eq 127, 3) := by decide +kernel
theorem d_Z_law_841 : decode b_Z_law 841 = .ok (.iconst 0, 1) := by decide +kernel
theorem d_Z_law_842 : decode b_Z_law 842 = .ok (.ireturn, 1) := by decide +kernel
theorem d_Z_law_843 : decode b_Z_law 843 = .ok (.aload_n 1, 1) := by decide +kernel
theorem d_Z_law_844 : decode b_Z_law 844 = .ok (.aload_n 0, 1) := by decide +kernel
theorem d_Z_law_845 : decode b_Z_law 845 = .ok (.iload_n 3, 1) := by decide +kernel
theorem d_Z_law_846 : decode b_Z_law 846 = .ok (.iconst 1, 1) := by decide +kernel
theorem d_Z_law_847 : decode b_Z_law 847 = .ok (.iadd, 1) := by decide +kernel
theorem d_Z_law_848 : decode b_Z_law 848 = .ok (.iaload, 1) := by decide +kernel
theorem d_Z_law_849 : decode b_Z_law 849 = .ok (.invokevirtual 107, 3) := by decide +kernel
theorem d_Z_law_852 : decode b_Z_law 852 = .ok (.aload_n 2, 1) := by decide +kernel
theorem d_Z_law_853 : decode b_Z_law 853 = .ok (.aload_n 0, 1) := by decide +kernel
theorem d_Z_law_854 : decode b_Z_law 854 = .ok (.iload_n 3, 1) := by decide +kernel
theorem d_Z_law_855 : decode b_Z_law 855 = .ok (.iconst 1, 1) := by decide +kernel
theorem d_Z_law_856 : decode b_Z_law 856 = .ok (.iadd, 1) := by decide +kernel
theorem d_Z_law_857 : decode b_Z_law 857 = .ok (.iaload, 1) := by decide +kernel
theorem d_Z_law_858 : decode b_Z_law 858 = .ok (.invokevirtual 110, 3) := by decide +kernel
theorem d_Z_law_861 : decode b_Z_law 861 = .ok (.if_icmp .eq 104, 3) := by decide +kernel
theorem d_Z_law_864 : decode b_Z_law 864 = .ok (.iconst 0, 1) := by decide +kernel
theorem d_Z_law_865 : decode b_Z_law 865 = .ok (.ireturn, 1) := by decide +kernel
theorem d_Z_law_866 : decode b_Z_law 866 = .ok (.aload_n 1, 1) := by decide +kernel
theorem d_Z_law_867 : decode b_Z_law 867 = .ok (.aload_n 0, 1) := by decide +kernel
theorem d_Z_law_868 : decode b_Z_law 868 = .ok (.iload_n 3, 1) := by decide +kernel
theorem d_Z_law_869 : decode b_Z_law 869 = .ok (.iconst 1, 1) := by decide +kernel
theorem d_Z_law_870 : decode b_Z_law 870 = .ok (.iadd, 1) := by decide +kernel
theorem d_Z_law_871 : decode b_Z_law 871 = .ok (.iaload, 1) := by decide +kernel
theorem d_Z_law_872 : decode b_Z_law 872 = .ok (.invokevirtual 111, 3) := by decide +kernel
theorem d_Z_law_875 : decode b_Z_law 875 = .ok (.aload_n 2, 1) := by decide +kernel
theorem d_Z_law_876 : decode b_Z_law 876 = .ok (.aload_n 0, 1) := by decide +kernel
theorem d_Z_law_877 : decode b_Z_law 877 = .ok (.iload_n 3, 1) := by decide +kernel
theorem d_Z_law_878 : decode b_Z_law 878 = .ok (.iconst 1, 1) := by decide +kernel
theorem d_Z_law_879 : decode b_Z_law 879 = .ok (.iadd, 1) := by decide +kernel
theorem d_Z_law_880 : decode b_Z_law 880 = .ok (.iaload, 1) := by decide +kernel
theorem d_Z_law_881 : decode b_Z_law 881 = .ok (.invokevirtual 114, 3) := by decide +kernel
theorem d_Z_law_884 : decode b_Z_law 884 = .ok (.if_icmp .eq 81, 3) := by decide +kernel
theorem d_Z_law_887 : decode b_Z_law 887 = .ok (.iconst 0, 1) := by decide +kernel
theorem d_Z_law_888 : decode b_Z_law 888 = .ok (.ireturn, 1) := by decide +kernel
theorem d_Z_law_889 : decode b_Z_law 889 = .ok (.aload_n 1, 1) := by decide +kernel
theorem d_Z_law_890 : decode b_Z_law 890 = .ok (.aload_n 0, 1) := by decide +kernel
theorem d_Z_law_891 : decode b_Z_law 891 = .ok (.iload_n 3, 1) := by decide +kernel
theorem d_Z_law_892 : decode b_Z_law 892 = .ok (.iconst 1, 1) := by decide +kernel
theorem d_Z_law_893 : decode b_Z_law 893 = .ok (.iadd, 1) := by decide +kernel
theorem d_Z_law_894 : decode b_Z_law 894 = .ok (.iaload, 1) := by decide +kernel
theorem d_Z_law_895 : decode b_Z_law 895 = .ok (.aload_n 0, 1) := by decide +kernel
theorem d_Z_law_896 : decode b_Z_law 896 = .ok (.iload_n 3, 1) := by decide +kernel
theorem d_Z_law_897 : decode b_Z_law 897 = .ok (.iconst 2, 1) := by decide +kernel
theorem d_Z_law_898 : decode b_Z_law 898 = .ok (.iadd, 1) := by decide +kernel
theorem d_Z_law_899 : decode b_Z_law 899 = .ok (.iaload, 1) := by decide +kernel
theorem d_Z_law_900 : decode b_Z_law 900 = .ok (.aload_n 0, 1) := by decide +kernel
theorem d_Z_law_901 : decode b_Z_law 901 = .ok (.iload_n 3, 1) := by decide +kernel
theorem d_Z_law_902 : decode b_Z_law 902 = .ok (.iconst 3, 1) := by decide +kernel
theorem d_Z_law_903 : decode b_Z_law 903 = .ok (.iadd, 1) := by decide +kernel
theorem d_Z_law_904 : decode b_Z_law 904 = .ok (.iaload, 1) := by decide +kernel
theorem d_Z_law_905 : decode b_Z_law 905 = .ok (.aload_n 0, 1) := by decide +kernel
theorem d_Z_law_906 : decode b_Z_law 906 = .ok (.iload_n 3, 1) := by decide +kernel
theorem d_Z_law_907 : decode b_Z_law 907 = .ok (.iconst 4, 1) := by decide +kernel
theorem d_Z_law_908 : decode b_Z_law 908 = .ok (.iadd, 1) := by decide +kernel
theorem d_Z_law_909 : decode b_Z_law 909 = .ok (.iaload, 1) := by decide +kernel
theorem d_Z_law_910 : decode b_Z_law 910 = .ok (.invokevirtual 115, 3) := by decide +kernel
theorem d_Z_law_913 : decode b_Z_law 913 = .ok (.aload_n 2, 1) := by decide +kernel
theorem d_Z_law_914 : decode b_Z_law 914 = .ok (.aload_n 0, 1) := by decide +kernel
theorem d_Z_law_915 : decode b_Z_law 915 = .ok (.iload_n 3, 1) := by decide +kernel
theorem d_Z_law_916 : decode b_Z_law 916 = .ok (.iconst 1, 1) := by decide +kernel
theorem d_Z_law_917 : decode b_Z_law 917 = .ok (.iadd, 1) := by decide +kernel
theorem d_Z_law_918 : decode b_Z_law 918 = .ok (.iaload, 1) := by decide +kernel
theorem d_Z_law_919 : decode b_Z_law 919 = .ok (.aload_n 0, 1) := by decide +kernel
theorem d_Z_law_920 : decode b_Z_law 920 = .ok (.iload_n 3, 1) := by decide +kernel
theorem d_Z_law_921 : decode b_Z_law 921 = .ok (.iconst 2, 1) := by decide +kernel
theorem d_Z_law_922 : decode b_Z_law 922 = .ok (.iadd, 1) := by decide +kernel
theorem d_Z_law_923 : decode b_Z_law 923 = .ok (.iaload, 1) := by decide +kernel
theorem d_Z_law_924 : decode b_Z_law 924 = .ok (.aload_n 0, 1) := by decide +kernel
theorem d_Z_law_925 : decode b_Z_law 925 = .ok (.iload_n 3, 1) := by decide +kernel
theorem d_Z_law_926 : decode b_Z_law 926 = .ok (.iconst 3, 1) := by decide +kernel
theorem d_Z_law_927 : decode b_Z_law 927 = .ok (.iadd, 1) := by decide +kernel
theorem d_Z_law_928 : decode b_Z_law 928 = .ok (.iaload, 1) := by decide +kernel
theorem d_Z_law_929 : decode b_Z_law 929 = .ok (.aload_n 0, 1) := by decide +kernel
theorem d_Z_law_930 : decode b_Z_law 930 = .ok (.iload_n 3, 1) := by decide +kernel
theorem d_Z_law_931 : decode b_Z_law 931 = .ok (.iconst 4, 1) := by decide +kernel
theorem d_Z_law_932 : decode b_Z_law 932 = .ok (.iadd, 1) := by decide +kernel
theorem d_Z_law_933 : decode b_Z_law 933 = .ok (.iaload, 1) := by decide +kernel
theorem d_Z_law_934 : decode b_Z_law 934 = .ok (.invokevirtual 119, 3) := by decide +kernel
theorem d_Z_law_937 : decode b_Z_law 937 = .ok (.if_icmp .eq 28, 3) := by decide +kernel
theorem d_Z_law_940 : decode b_Z_law 940 = .ok (.iconst 0, 1) := by decide +kernel
theorem d_Z_law_941 : decode b_Z_law 941 = .ok (.ireturn, 1) := by decide +kernel
theorem d_Z_law_942 : decode b_Z_law 942 = .ok (.aload_n 1, 1) := by decide +kernel
theorem d_Z_law_943 : decode b_Z_law 943 = .ok (.aload_n 0, 1) := by decide +kernel
theorem d_Z_law_944 : decode b_Z_law 944 = .ok (.iload_n 3, 1) := by decide +kernel
theorem d_Z_law_945 : decode b_Z_law 945 = .ok (.iconst 1, 1) := by decide +kernel
theorem d_Z_law_946 : decode b_Z_law 946 = .ok (.iadd, 1) := by decide +kernel
theorem d_Z_law_947 : decode b_Z_law 947 = .ok (.iaload, 1) := by decide +kernel
theorem d_Z_law_948 : decode b_Z_law 948 = .ok (.invokevirtual 120, 3) := by decide +kernel
theorem d_Z_law_951 : decode b_Z_law 951 = .ok (.aload_n 2, 1) := by decide +kernel
theorem d_Z_law_952 : decode b_Z_law 952 = .ok (.aload_n 0, 1) := by decide +kernel
theorem d_Z_law_953 : decode b_Z_law 953 = .ok (.iload_n 3, 1) := by decide +kernel
theorem d_Z_law_954 : decode b_Z_law 954 = .ok (.iconst 1, 1) := by decide +kernel
theorem d_Z_law_955 : decode b_Z_law 955 = .ok (.iadd, 1) := by decide +kernel
theorem d_Z_law_956 : decode b_Z_law 956 = .ok (.iaload, 1) := by decide +kernel
theorem d_Z_law_957 : decode b_Z_law 957 = .ok (.invokevirtual 123, 3) := by decide +kernel
theorem d_Z_law_960 : decode b_Z_law 960 = .ok (.if_icmp .eq 5, 3) := by decide +kernel
theorem d_Z_law_963 : decode b_Z_law 963 = .ok (.iconst 0, 1) := by decide +kernel
theorem d_Z_law_964 : decode b_Z_law 964 = .ok (.ireturn, 1) := by decide +kernel
theorem d_Z_law_965 : decode b_Z_law 965 = .ok (.iinc 3 6, 3) := by decide +kernel
theorem d_Z_law_968 : decode b_Z_law 968 = .ok (.goto (-950), 3) := by decide +kernel
theorem d_Z_law_971 : decode b_Z_law 971 = .ok (.iconst 1, 1) := by decide +kernel
theorem d_Z_law_972 : decode b_Z_law 972 = .ok (.ireturn, 1) := by decide +kernel
end
section
/-! A walk over pure states: values are whole numbers or numbers of cells, a heap is shapes, numbers, references. -/
abbrev sx_v : Type := Int ⊕ Option Nat ⊕ Int
abbrev sx_p (a : Nat) : sx_v := .inr (.inl (some a))
abbrev sx_l (z : Int) : sx_v := .inr (.inr z)
abbrev sx_h : Type := Nat × (Nat → Nat × Nat) × (Nat → Nat → Int) × (Nat → Nat → Option Nat)
def sx_ad (b base : Nat) : Nat → Nat
  | 0 => b
  | a + 1 => base + a
def sx_e (b base : Nat) : sx_v → Value
  | .inl z => .int (Int32.ofInt z)
  | .inr (.inl r) => va_rf (r.map (sx_ad b base))
  | .inr (.inr z) => .long (Int64.ofInt z)
/-- how many words a value takes -/
def sx_ct : sx_v → Nat
  | .inl _ => 1
  | .inr (.inl _) => 1
  | .inr (.inr _) => 2
theorem sx_e_ct (b base : Nat) (v : sx_v) : (sx_e b base v).category = sx_ct v := by
  rcases v with z | r | z
  · rfl
  · cases r <;> rfl
  · rfl
theorem sx_e_cat (b base : Nat) {v : sx_v} (h : sx_ct v = 1) : (sx_e b base v).category = 1 := (sx_e_ct b base v).trans h
theorem sx_sum (b base : Nat) (st : List sx_v) : ((st.map (sx_e b base)).map fun v => v.category).sum = (st.map sx_ct).sum := by
  induction st with
  | nil => rfl
  | cons a l ih => simp only [List.map_cons, List.sum_cons, ih, sx_e_ct]
/-- a field's value by its class and number -/
def sx_fv (b base : Nat) (h : sx_h) (t a k : Nat) : Value := if sx_isI t k = true then .int (Int32.ofInt (h.2.2.1 a k)) else va_rf ((h.2.2.2 a k).map (sx_ad b base))
def sx_cell (dA : Nat → ClassId) (b base : Nat) (h : sx_h) (a : Nat) : va_E :=
  if (h.2.1 a).1 < 100 then .inr ((h.2.1 a).1, (List.range (h.2.1 a).2).map (sx_fv b base h (h.2.1 a).1 a))
  else if (h.2.1 a).1 < 102 then .inl (dA ((h.2.1 a).1 - 100), (h.2.1 a).2, .inl (fun j => Int32.ofInt (h.2.2.1 a j)))
  else .inl (dA ((h.2.1 a).1 - 100), (h.2.1 a).2, .inr (.inr (.inr (.inr (fun j => (h.2.2.2 a j).map (sx_ad b base))))))
def sx_w (dA : Nat → ClassId) (b base : Nat) (h : sx_h) : va_W := (List.range h.1).map (fun a => (base + a, sx_cell dA b base h (a + 1)))
theorem sx_w_at {dA : Nat → ClassId} {b base : Nat} {h : sx_h} {a : Nat} (ha : a < h.1) : (sx_w dA b base h)[a]? = some (base + a, sx_cell dA b base h (a + 1)) := by
  simp [sx_w, List.getElem?_map, ha]
theorem sx_w_get {dA : Nat → ClassId} {b base : Nat} {h : sx_h} {k : Nat} {q : Nat × va_E} (hk : (sx_w dA b base h)[k]? = some q) : k < h.1 ∧ q = (base + k, sx_cell dA b base h (k + 1)) := by
  have hl := (List.getElem?_eq_some_iff.mp hk).1
  have hl : k < h.1 := by simpa [sx_w] using hl
  refine ⟨hl, ?_⟩
  rw [sx_w_at hl] at hk
  exact (Option.some.inj hk).symm
theorem sx_D (dA : Nat → ClassId) (b base : Nat) (h : sx_h) : va_D (fun q => base ≤ q) (sx_w dA b base h) := by
  refine ⟨fun i j p q hi hj e => ?_, fun k q hk => ?_⟩
  · obtain ⟨-, rfl⟩ := sx_w_get hi
    obtain ⟨-, rfl⟩ := sx_w_get hj
    have e : base + i = base + j := e
    omega
  · obtain ⟨-, rfl⟩ := sx_w_get hk
    exact Nat.le_add_right _ _
/-- the heap holds the pure one; behind base all cells are its -/
def sx_H (D : va_G) (dA : Nat → ClassId) (b base : Nat) (s : State) (H : Heap) (locs : List Loc) (h : sx_h) : Prop :=
  va_P D sx_cl (sx_w dA b base h) H ∧ H.size = base + h.1 ∧ va_S (fun q => base ≤ q) s.heap H locs
def sx_tys (dA : Nat → ClassId) : List (ClassId × FieldType) := (List.range sx_ty.length).map (fun i => (dA i, sx_ty.getD i .int))
theorem sx_tys_at {dA : Nat → ClassId} {i : Nat} (hi : i < sx_ty.length) : (sx_tys dA)[i]? = some (dA i, sx_ty.getD i .int) := by
  rw [sx_tys, List.getElem?_map, List.getElem?_range hi]
  rfl
/-- what is fixed in a method's body -/
def sx_C (y : sx_Y) (p : Program) (s : State) (m : MethodId) (args : Array Value) (meth : Method) (c : Code) (D : va_G) (dA : Nat → ClassId) (b base L : Nat) (xs : Nat → Int32) : Prop :=
  CallFix p m c y.2.1 y.2.2.1 s args sx_T y.1.cls ∧ meth.sig.returnType = y.2.2.2 ∧ meth.locks = false ∧ (y.1.name = "<init>" → meth.name = "<init>") ∧ va_K D sx_cl (sx_tys dA) s ∧ (∀ w ∈ sx_N, va_Nw w s) ∧ va_X b L xs s s.heap ∧ b < base ∧ base ≤ s.heap.size
def sx_L (b base : Nat) (ls : Array Slot) (nL : Nat) (l : List (Option sx_v)) : Prop :=
  ls.size = nL ∧ lv_wf ls ∧ ∀ (i : Nat) (v : sx_v), l[i]? = some (some v) → ls[i]? = some (.val (sx_e b base v))
def sx_ll (b base : Nat) (l : List (Option sx_v)) : List (Nat × Value) := (List.range l.length).filterMap (fun i => (l.getD i none).map (fun v => (i, sx_e b base v)))
theorem sx_ll_mem {b base : Nat} {l : List (Option sx_v)} {i : Nat} {w : Value} : (i, w) ∈ sx_ll b base l ↔ ∃ v, l[i]? = some (some v) ∧ w = sx_e b base v := by
  unfold sx_ll
  rw [List.mem_filterMap]
  constructor
  · rintro ⟨j, hj, hq⟩
    cases hv : l.getD j none with
    | none => rw [hv] at hq; cases hq
    | some v =>
      rw [hv] at hq
      cases hq
      refine ⟨v, ?_, rfl⟩
      have hj : i < l.length := List.mem_range.mp hj
      rw [List.getD_eq_getElem?_getD, List.getElem?_eq_getElem hj, Option.getD_some] at hv
      rw [List.getElem?_eq_getElem hj, hv]
  · rintro ⟨v, hv, rfl⟩
    refine ⟨i, List.mem_range.mpr (List.getElem?_eq_some_iff.mp hv).1, ?_⟩
    rw [List.getD_eq_getElem?_getD, hv]
    rfl
theorem sx_L.has {b base nL : Nat} {ls : Array Slot} {l : List (Option sx_v)} (h : sx_L b base ls nL l) : lv_has ls nL (sx_ll b base l) := by
  refine ⟨h.1, h.2.1, fun q hq => ?_⟩
  obtain ⟨i, w⟩ := q
  obtain ⟨v, hv, rfl⟩ := sx_ll_mem.mp hq
  exact h.2.2 i v hv
/-- no long stands just before slot i -/
def sx_nl (l : List (Option sx_v)) : Nat → Bool
  | 0 => true
  | i + 1 => match l[i]? with
    | some (some (.inr (.inr _))) => false
    | _ => true
theorem sx_nl_ne {b base : Nat} {l : List (Option sx_v)} {i j : Nat} {w : sx_v} (h : sx_nl l i = true) (hj : l[j]? = some (some w)) : (j + 1 == i && (sx_e b base w).category == 2) = false := by
  by_cases e : j + 1 = i
  · subst e
    have h2 : (sx_e b base w).category = 1 := by
      refine sx_e_cat b base ?_
      rcases w with z | r | z
      · rfl
      · rfl
      · simp [sx_nl, hj] at h
    rw [h2]
    simp
  · have : (j + 1 == i) = false := by simpa using e
    rw [this]
    rfl
theorem sx_L.set {b base nL i : Nat} {ls : Array Slot} {l : List (Option sx_v)} {v : sx_v} (hn : sx_nl l i = true) (h : lv_has ls nL ((i, sx_e b base v) :: (sx_ll b base l).filter (fun q => !(q.1 == i) && !(q.1 + 1 == i && q.2.category == 2)))) : sx_L b base ls nL (l.set i (some v)) := by
  refine ⟨h.1, h.2.1, fun j w hj => ?_⟩
  by_cases hij : i = j
  · subst hij
    have hl : i < l.length := by
      have := (List.getElem?_eq_some_iff.mp hj).1
      simpa using this
    rw [List.getElem?_set_self hl] at hj
    cases hj
    exact h.2.2 (i, sx_e b base v) List.mem_cons_self
  · rw [List.getElem?_set_ne hij] at hj
    refine h.2.2 (j, sx_e b base w) (List.mem_cons_of_mem _ (List.mem_filter.mpr ⟨sx_ll_mem.mpr ⟨w, hj, rfl⟩, ?_⟩))
    have h1 : (j == i) = false := by simp; omega
    have h2 := sx_nl_ne (b := b) (base := base) hn hj
    simp only [h1, h2, Bool.not_false, Bool.and_self]
theorem sx_L.set2 {b base nL i : Nat} {ls : Array Slot} {l : List (Option sx_v)} {v : sx_v} (hn : sx_nl l i = true) (h : lv_has ls nL ((i, sx_e b base v) :: (sx_ll b base l).filter (fun q => !(q.1 == i) && (!(q.1 == i + 1) && !(q.1 + 1 == i && q.2.category == 2))))) : sx_L b base ls nL ((l.set i (some v)).set (i + 1) none) := by
  refine ⟨h.1, h.2.1, fun j w hj => ?_⟩
  by_cases hij1 : i + 1 = j
  · subst hij1
    by_cases hl : i + 1 < l.length
    · rw [List.getElem?_set_self (by simpa using hl)] at hj
      cases hj
    · rw [List.getElem?_eq_none (by simp; omega)] at hj
      cases hj
  rw [List.getElem?_set_ne hij1] at hj
  by_cases hij : i = j
  · subst hij
    have hl : i < l.length := by
      have := (List.getElem?_eq_some_iff.mp hj).1
      simpa using this
    rw [List.getElem?_set_self hl] at hj
    cases hj
    exact h.2.2 (i, sx_e b base v) List.mem_cons_self
  · rw [List.getElem?_set_ne hij] at hj
    refine h.2.2 (j, sx_e b base w) (List.mem_cons_of_mem _ (List.mem_filter.mpr ⟨sx_ll_mem.mpr ⟨w, hj, rfl⟩, ?_⟩))
    have h1 : (j == i) = false := by simp; omega
    have h3 : (j == i + 1) = false := by simp; omega
    have h2 := sx_nl_ne (b := b) (base := base) hn hj
    simp only [h1, h2, h3, Bool.not_false, Bool.and_self]
/-- a return's instruction fits the answer -/
def sx_ret (y : sx_Y) (pc : Nat) : Option sx_v → Prop
  | none => decode y.2.1 pc = .ok (.return_, 1) ∧ y.2.2.2 = none
  | some (.inl z) => decode y.2.1 pc = .ok (.ireturn, 1) ∧ (y.2.2.2 = some .int ∨ (y.2.2.2 = some .boolean ∧ (z = 0 ∨ z = 1)))
  | some (.inr _) => False
/-- the machine, at this pure state of method y's body, comes to a return with 'post' -/
def sx_V (y : sx_Y) (k : Nat × Nat × Nat) (L : Nat) (xs : Nat → Int32) (cs : Nat × Nat) (pc : Nat) (l : List (Option sx_v)) (st : List sx_v) (h : sx_h) (post : Option sx_v → sx_h → Prop) : Prop :=
  ∀ (p : Program) (lc : Launch) (e : Env) (R : Room) (s : State) (m : MethodId) (args : Array Value) (below : List Frame) (meth : Method) (c : Code) (D : va_G) (dA : Nat → ClassId) (b base : Nat) (Q : State → Prop),
    sx_C y p s m args meth c D dA b base L xs → (k.1 ≤ R.frames ∧ 64 * k.1 ≤ R.locals ∧ k.2.1 ≤ R.cells ∧ k.2.2 ≤ R.slots) →
    (∀ (pcR : Nat) (lsR : Array Slot) (H : Heap) (locs : List Loc) (v : Option sx_v) (h' : sx_h), post v h' → sx_H D dA b base s H locs h' → sx_ret y pcR v → W p lc e R s m args below meth c H locs k.2.1 k.2.2 Q (F0 m pcR lsR (v.toList.map (sx_e b base)))) →
    ∀ (H : Heap) (locs : List Loc) (ls : Array Slot), sx_H D dA b base s H locs h → sx_L b base ls y.2.2.1 l → W p lc e R s m args below meth c H locs cs.1 cs.2 Q (F0 m pc ls (st.map (sx_e b base)))
/-- a method's start and end by pure heaps -/
def sx_B (D : va_G) (dA : Nat → ClassId) (b base L : Nat) (xs : Nat → Int32) (h : sx_h) (U : State) : Prop :=
  va_P D sx_cl (sx_w dA b base h) U.heap ∧ U.heap.size = base + h.1 ∧ va_K D sx_cl (sx_tys dA) U ∧ (∀ w ∈ sx_N, va_Nw w U) ∧ va_X b L xs U U.heap ∧ b < base
def sx_Q (D : va_G) (dA : Nat → ClassId) (b base : Nat) (post : Option sx_v → sx_h → Prop) : Array Value → State → Outcome → State → Prop := fun _ st oc t =>
  ∃ (v : Option sx_v) (h' : sx_h), oc = .returned (v.map (sx_e b base)) ∧ post v h' ∧ va_P D sx_cl (sx_w dA b base h') t.heap ∧ t.heap.size = base + h'.1 ∧ va_F (fun q => base ≤ q) st t
def sx_ws (y : sx_Y) : List Cond := Cond.code y.1 y.2.1 y.2.2.1 y.2.2.2 :: sx_T
def sx_rm (k : Nat × Nat × Nat) : Room := { frames := k.1, cells := k.2.1, slots := k.2.2, locals := 64 * k.1 }
/-- method y's contract: from these arguments and this heap it returns with 'post' -/
def sx_R (y : sx_Y) (k : Nat × Nat × Nat) (L : Nat) (xs : Nat → Int32) (av : List sx_v) (h : sx_h) (post : Option sx_v → sx_h → Prop) : Prop :=
  ∀ (lc : Launch) (D : va_G) (dA : Nat → ClassId) (b base : Nat), Met lc y.1 (sx_ws y) (sx_rm k) (va_Pc (av.map (sx_e b base)) (sx_B D dA b base L xs h)) (sx_Q D dA b base post) k.2.1 k.2.2 (fun q => base ≤ q)
theorem sx_lg (b base : Nat) (av : List sx_v) (h : ∀ v ∈ av, sx_ct v = 1) : lg_sl (av.map (sx_e b base)) = av.map (fun v => Slot.val (sx_e b base v)) := by
  induction av with
  | nil => rfl
  | cons a l ih =>
    have e : lg_sl ((a :: l).map (sx_e b base)) = (if (sx_e b base a).category = 2 then [Slot.val (sx_e b base a), .second] else [Slot.val (sx_e b base a)]) ++ lg_sl (l.map (sx_e b base)) := rfl
    rw [e, sx_e_cat b base (h a List.mem_cons_self), ih (fun v hv => h v (List.mem_cons_of_mem _ hv)), if_neg (by decide)]
    rfl
theorem sx_enter {y : sx_Y} {k : Nat × Nat × Nat} {L : Nat} {xs : Nat → Int32} {av : List sx_v} {h : sx_h} {post : Option sx_v → sx_h → Prop} (hy : plainFor y.1 = true) (hn : av.length ≤ y.2.2.1) (hct : (av.map sx_ct).all (fun n => n == 1) = true)
    (body : sx_V y k L xs (0, 0) 0 (av.map some ++ List.replicate (y.2.2.1 - av.length) none) [] h post) : sx_R y k L xs av h post := by
  intro lc D dA b base
  have hct : ∀ v ∈ av, sx_ct v = 1 := fun v hv => by
    have := List.all_eq_true.mp hct (sx_ct v) (List.mem_map.mpr ⟨v, hv, rfl⟩)
    simpa using this
  refine va_MetF (cc := y.2.1) (maxL := y.2.2.1) (ret := y.2.2.2) hy rfl ?_
  intro p e s m args below meth c s₁ B hml hv
  obtain ⟨rfl, hP, hsz, hK, hN, hX, hb⟩ := hv
  have hts := atoms_spec (ws := sx_ws y) B.pre
  have hr := B.returns
  have hlk := B.notSynchronized
  have hl := lv_entry (av.map (sx_e b base)) (n := y.2.2.1) (by rw [sx_lg b base av hct, List.length_map]; exact hn)
  rw [lg_entry_eq]
  refine body p lc e _ s m _ below meth c D dA b base _ ⟨⟨B.exec, B.bytes, hml, findClass_of_methodNamed B.named, fun w hw => hts w (List.mem_cons_of_mem _ hw)⟩, hr, hlk, fun e9 => (name_of_methodNamed B.named B.method).1.trans e9, hK, hN, hX, hb, by omega⟩ ⟨Nat.le_refl _, Nat.le_refl _, Nat.le_refl _, Nat.le_refl _⟩ ?_ s.heap [] _ ⟨hP, hsz, va_S.rf⟩ ⟨hl.1, hl.2.1, ?_⟩
  · intro pcR lsR H locs v h' hp hH hret
    have key : ∀ (oc : Option Value), oc = v.map (sx_e b base) → ∀ t : State, t.heap = H → s.WarmedH t.vm → sx_Q D dA b base post (av.map (sx_e b base)).toArray s (.returned oc) t := by
      intro oc hoc t ht _
      exact ⟨v, h', by rw [hoc], hp, by rw [ht]; exact hH.1, by rw [ht]; exact hH.2.1, hH.2.2.F ht⟩
    match v, hret, key with
    | none, hret, key => exact W.vret B.exec B.bytes (hr.trans hret.2) (key none rfl) hH.2.2.2.2 hret.1
    | some (.inl z), hret, key =>
      rcases hret.2 with h1 | ⟨h1, h2⟩
      · exact W.iret B.exec B.bytes (hr.trans h1) (key _ rfl) hH.2.2.2.2 hret.1
      · exact W.zret B.exec B.bytes (hr.trans h1) (by rcases h2 with rfl | rfl <;> rfl) (key _ rfl) hH.2.2.2.2 hret.1
    | some (.inr r), hret, key => exact absurd hret id
  · intro i v hv
    have hi : i < av.length := by
      rcases Nat.lt_or_ge i av.length with q | q
      · exact q
      · rw [List.getElem?_append_right (by simpa using q)] at hv
        have := List.mem_of_getElem? hv
        rw [List.mem_replicate] at this
        cases this.2
    rw [List.getElem?_append_left (by simpa using hi), List.getElem?_map] at hv
    have hv : av[i]? = some v := by
      cases ha : av[i]? with
      | none => rw [ha] at hv; cases hv
      | some u => rw [ha] at hv; cases hv; rfl
    rw [sx_lg b base av hct, List.getElem?_toArray, List.getElem?_append_left (by simpa using hi), List.getElem?_map, hv]
    rfl
end
section
abbrev sx_r (z : Int) : Prop := -2147483648 ≤ z ∧ z ≤ 2147483647
theorem sx_ti {z : Int} (h : sx_r z) : (Int32.ofInt z).toInt = z := Int32.toInt_ofInt_of_le (by have := h.1; omega) (by have := h.2; omega)
theorem sx_i32 (x : Int32) : sx_r x.toInt := ⟨x.le_toInt, by have := x.toInt_lt; omega⟩
theorem sx_lt {x y : Int} (hx : sx_r x) (hy : sx_r y) : Int32.ofInt x < Int32.ofInt y ↔ x < y := by rw [Int32.lt_iff_toInt_lt, sx_ti hx, sx_ti hy]
theorem sx_le {x y : Int} (hx : sx_r x) (hy : sx_r y) : Int32.ofInt x ≤ Int32.ofInt y ↔ x ≤ y := by rw [Int32.le_iff_toInt_le, sx_ti hx, sx_ti hy]
theorem sx_eq {x y : Int} (hx : sx_r x) (hy : sx_r y) : Int32.ofInt x = Int32.ofInt y ↔ x = y := by rw [← Int32.toInt_inj, sx_ti hx, sx_ti hy]
theorem sx_r0 : sx_r 0 := ⟨by decide, by decide⟩
theorem sx_div {x y : Int} (hx : sx_r x) (hy : sx_r y) : Int32.ofInt x / Int32.ofInt y = Int32.ofInt (x.tdiv y) := by
  rw [← Int32.toInt_inj, Int32.toInt_div, sx_ti hx, sx_ti hy, Int32.toInt_ofInt]
theorem sx_in {i : Int} {n : Nat} (h0 : 0 ≤ i) (h1 : i < n) (hn : n ≤ 2147483647) : vp_in (Int32.ofInt i) n ∧ (Int32.ofInt i).toNatClampNeg = i.toNat := by
  have hr : sx_r i := ⟨by omega, by omega⟩
  have e : (Int32.ofInt i).toNatClampNeg = i.toNat := Int32.toNatClampNeg_ofInt_of_le (by have := hr.1; omega) (by have := hr.2; omega)
  refine ⟨?_, e⟩
  rintro (q | q)
  · have q : Int32.ofInt i < Int32.ofInt 0 := q
    rw [sx_lt hr sx_r0] at q
    omega
  · rw [e] at q
    omega
def sx_u (I : Nat → Nat → Int) (a k : Nat) (z : Int) : Nat → Nat → Int := fun a' k' => if a' = a ∧ k' = k then z else I a' k'
def sx_ur (I : Nat → Nat → Option Nat) (a k : Nat) (z : Option Nat) : Nat → Nat → Option Nat := fun a' k' => if a' = a ∧ k' = k then z else I a' k'
/-- the same cells with other numbers -/
def sx_m (h : sx_h) (M : Nat → Nat → Int) : sx_h := (h.1, h.2.1, M, h.2.2.2)
theorem sx_us {I : Nat → Nat → Int} {a k : Nat} {z : Int} : sx_u I a k z a k = z := if_pos ⟨rfl, rfl⟩
theorem sx_u_ne {I : Nat → Nat → Int} {a k a' : Nat} {z : Int} (h : a' ≠ a) (j : Nat) : sx_u I a k z a' j = I a' j := if_neg (fun q => h q.1)
theorem sx_ur_ne {I : Nat → Nat → Option Nat} {a k a' : Nat} {z : Option Nat} (h : a' ≠ a) (j : Nat) : sx_ur I a k z a' j = I a' j := if_neg (fun q => h q.1)
theorem sx_cell_congr {dA : Nat → ClassId} {b base : Nat} {h h' : sx_h} {a : Nat} (h1 : h'.2.1 a = h.2.1 a) (h2 : ∀ j, h'.2.2.1 a j = h.2.2.1 a j) (h3 : ∀ j, h'.2.2.2 a j = h.2.2.2 a j) : sx_cell dA b base h' a = sx_cell dA b base h a := by
  have e : ∀ t, sx_fv b base h' t a = sx_fv b base h t a := fun t => funext fun k => by simp only [sx_fv, h2, h3]
  simp only [sx_cell, h1, h2, h3, e]
theorem sx_H.put {D : va_G} {dA : Nat → ClassId} {b base : Nat} {s : State} {H H1 : Heap} {locs : List Loc} {h h' : sx_h} {j k' : Nat} (hH : sx_H D dA b base s H locs h) (h1 : h'.1 = h.1) (hj : j < h.1) (hat : va_at D sx_cl (base + j, sx_cell dA b base h' (j + 1)) H1)
    (ho : ∀ a, a ≠ j + 1 → sx_cell dA b base h' a = sx_cell dA b base h a) (z : H1.size = H.size) (oq : ∀ q : Nat, q ≠ base + j → H1[q]? = H[q]?) : sx_H D dA b base s H1 (locs ++ [⟨base + j, k'⟩]) h' := by
  refine ⟨fun i q hq => ?_, by rw [z, hH.2.1, h1], hH.2.2.put z oq (Nat.le_add_right _ _)⟩
  obtain ⟨hi, rfl⟩ := sx_w_get hq
  rw [h1] at hi
  by_cases hij : i = j
  · subst hij
    exact hat
  · have h2 := hH.1 i _ (sx_w_at hi)
    rw [← ho (i + 1) (by omega)] at h2
    exact h2.kept (oq _ (by show base + i ≠ base + j; omega))
/-- a cell of the pure heap -/
def sx_o (h : sx_h) (a t n : Nat) : Prop := a ≠ 0 ∧ a ≤ h.1 ∧ h.2.1 a = (t, n)
theorem sx_o.obj {dA : Nat → ClassId} {b base : Nat} {h : sx_h} {a t n : Nat} (ho : sx_o h a t n) (ht : t < 100) : (sx_w dA b base h)[a - 1]? = some (sx_ad b base a, .inr (t, (List.range n).map (sx_fv b base h t a))) := by
  obtain ⟨h0, h1, h2⟩ := ho
  obtain ⟨j, rfl⟩ : ∃ j, a = j + 1 := ⟨a - 1, by omega⟩
  rw [Nat.add_sub_cancel, sx_w_at (by omega)]
  simp only [sx_cell, h2, if_pos ht]
  rfl
theorem sx_o.ints {dA : Nat → ClassId} {b base : Nat} {h : sx_h} {a t n : Nat} (ho : sx_o h a t n) (h3 : ¬ t < 100) (h4 : t < 102) : (sx_w dA b base h)[a - 1]? = some (sx_ad b base a, .inl (dA (t - 100), n, .inl (fun j => Int32.ofInt (h.2.2.1 a j)))) := by
  obtain ⟨h0, h1, h2⟩ := ho
  obtain ⟨j, rfl⟩ : ∃ j, a = j + 1 := ⟨a - 1, by omega⟩
  rw [Nat.add_sub_cancel, sx_w_at (by omega)]
  simp only [sx_cell, h2, if_neg h3, if_pos h4]
  rfl
theorem sx_o.refs {dA : Nat → ClassId} {b base : Nat} {h : sx_h} {a t n : Nat} (ho : sx_o h a t n) (h4 : ¬ t < 102) : (sx_w dA b base h)[a - 1]? = some (sx_ad b base a, .inl (dA (t - 100), n, .inr (.inr (.inr (.inr (fun j => (h.2.2.2 a j).map (sx_ad b base))))))) := by
  obtain ⟨h0, h1, h2⟩ := ho
  obtain ⟨j, rfl⟩ : ∃ j, a = j + 1 := ⟨a - 1, by omega⟩
  rw [Nat.add_sub_cancel, sx_w_at (by omega)]
  simp only [sx_cell, h2, if_neg (show ¬ t < 100 by omega), if_neg h4]
  rfl
section SXA
variable {y : sx_Y} {k : Nat × Nat × Nat} {L : Nat} {xs : Nat → Int32} {cs : Nat × Nat} {pc : Nat} {l : List (Option sx_v)} {st : List sx_v} {h : sx_h} {post : Option sx_v → sx_h → Prop}
theorem sx_iconst {n : Int} (hd : decode y.2.1 pc = .ok (.iconst n, 1)) (kk : sx_V y k L xs cs (pc + 1) l (.inl n :: st) h post) : sx_V y k L xs cs pc l st h post := by
  intro p lc e R s m args below meth c D dA b base Q hC hR hk H locs ls hH hL
  exact lv_iconst hC.1.1 hC.1.2.1 hd rfl (kk p lc e R s m args below meth c D dA b base Q hC hR hk H locs ls hH hL)
theorem sx_bipush {n : Int} (hd : decode y.2.1 pc = .ok (.bipush n, 2)) (hn : (Int8.ofInt n).toInt32 = Int32.ofInt n) (kk : sx_V y k L xs cs (pc + 2) l (.inl n :: st) h post) : sx_V y k L xs cs pc l st h post := by
  intro p lc e R s m args below meth c D dA b base Q hC hR hk H locs ls hH hL
  exact lv_bipush hC.1.1 hC.1.2.1 hd hn (kk p lc e R s m args below meth c D dA b base Q hC hR hk H locs ls hH hL)
theorem sx_sipush {n : Int} (hd : decode y.2.1 pc = .ok (.sipush n, 3)) (hn : (Int16.ofInt n).toInt32 = Int32.ofInt n) (kk : sx_V y k L xs cs (pc + 3) l (.inl n :: st) h post) : sx_V y k L xs cs pc l st h post := by
  intro p lc e R s m args below meth c D dA b base Q hC hR hk H locs ls hH hL
  exact lv_sipush hC.1.1 hC.1.2.1 hd hn (kk p lc e R s m args below meth c D dA b base Q hC hR hk H locs ls hH hL)
theorem sx_ldc {n : Int} {idx : Nat} (hd : decode y.2.1 pc = .ok (.ldc idx, 2)) (hw : Cond.constant y.1.cls idx (Int32.ofInt n) ∈ sx_T) (kk : sx_V y k L xs cs (pc + 2) l (.inl n :: st) h post) : sx_V y k L xs cs pc l st h post := by
  intro p lc e R s m args below meth c D dA b base Q hC hR hk H locs ls hH hL
  exact lv_ldc hC.1.1 hC.1.2.1 hC.1.2.2.2.1 (hC.1.2.2.2.2 _ hw) hd (kk p lc e R s m args below meth c D dA b base Q hC hR hk H locs ls hH hL)
theorem sx_iload_n {i : Fin 4} {z : Int} (hd : decode y.2.1 pc = .ok (.iload_n i, 1)) (hl : l[(i : Nat)]? = some (some (.inl z))) (kk : sx_V y k L xs cs (pc + 1) l (.inl z :: st) h post) : sx_V y k L xs cs pc l st h post := by
  intro p lc e R s m args below meth c D dA b base Q hC hR hk H locs ls hH hL
  exact lv_iload_n hC.1.1 hC.1.2.1 hd rfl (hL.2.2 _ _ hl) (kk p lc e R s m args below meth c D dA b base Q hC hR hk H locs ls hH hL)
theorem sx_iload {i : Nat} {z : Int} (hd : decode y.2.1 pc = .ok (.iload i, 2)) (hl : l[i]? = some (some (.inl z))) (kk : sx_V y k L xs cs (pc + 2) l (.inl z :: st) h post) : sx_V y k L xs cs pc l st h post := by
  intro p lc e R s m args below meth c D dA b base Q hC hR hk H locs ls hH hL
  exact lv_iload hC.1.1 hC.1.2.1 hd (hL.2.2 _ _ hl) (kk p lc e R s m args below meth c D dA b base Q hC hR hk H locs ls hH hL)
theorem sx_aload_n {i : Fin 4} {a : Nat} (hd : decode y.2.1 pc = .ok (.aload_n i, 1)) (hl : l[(i : Nat)]? = some (some (sx_p a))) (kk : sx_V y k L xs cs (pc + 1) l (sx_p a :: st) h post) : sx_V y k L xs cs pc l st h post := by
  intro p lc e R s m args below meth c D dA b base Q hC hR hk H locs ls hH hL
  exact lv_aload_n hC.1.1 hC.1.2.1 hd rfl (hL.2.2 _ _ hl) (kk p lc e R s m args below meth c D dA b base Q hC hR hk H locs ls hH hL)
theorem sx_aload {i : Nat} {a : Nat} (hd : decode y.2.1 pc = .ok (.aload i, 2)) (hl : l[i]? = some (some (sx_p a))) (kk : sx_V y k L xs cs (pc + 2) l (sx_p a :: st) h post) : sx_V y k L xs cs pc l st h post := by
  intro p lc e R s m args below meth c D dA b base Q hC hR hk H locs ls hH hL
  exact lv_aload hC.1.1 hC.1.2.1 hd (hL.2.2 _ _ hl) (kk p lc e R s m args below meth c D dA b base Q hC hR hk H locs ls hH hL)
theorem sx_istore_n {i : Fin 4} {z : Int} (hd : decode y.2.1 pc = .ok (.istore_n i, 1)) (hi : (i : Nat) < y.2.2.1) (hnl : sx_nl l i = true) {l' : List (Option sx_v)} (hl : l.set i (some (.inl z)) = l') (kk : sx_V y k L xs cs (pc + 1) l' st h post) : sx_V y k L xs cs pc l (.inl z :: st) h post := by
  intro p lc e R s m args below meth c D dA b base Q hC hR hk H locs ls hH hL
  subst hl
  exact lv_istore_n hC.1.1 hC.1.2.1 hd rfl hL.has hi rfl (fun ls' hl' => kk p lc e R s m args below meth c D dA b base Q hC hR hk H locs ls' hH (sx_L.set (v := .inl z) hnl hl'))
theorem sx_istore {i : Nat} {z : Int} (hd : decode y.2.1 pc = .ok (.istore i, 2)) (hi : i < y.2.2.1) (hnl : sx_nl l i = true) {l' : List (Option sx_v)} (hl : l.set i (some (.inl z)) = l') (kk : sx_V y k L xs cs (pc + 2) l' st h post) : sx_V y k L xs cs pc l (.inl z :: st) h post := by
  intro p lc e R s m args below meth c D dA b base Q hC hR hk H locs ls hH hL
  subst hl
  exact lv_istore hC.1.1 hC.1.2.1 hd hL.has hi rfl (fun ls' hl' => kk p lc e R s m args below meth c D dA b base Q hC hR hk H locs ls' hH (sx_L.set (v := .inl z) hnl hl'))
theorem sx_astore_n {i : Fin 4} {a : Nat} (hd : decode y.2.1 pc = .ok (.astore_n i, 1)) (hi : (i : Nat) < y.2.2.1) (hnl : sx_nl l i = true) {l' : List (Option sx_v)} (hl : l.set i (some (sx_p a)) = l') (kk : sx_V y k L xs cs (pc + 1) l' st h post) : sx_V y k L xs cs pc l (sx_p a :: st) h post := by
  intro p lc e R s m args below meth c D dA b base Q hC hR hk H locs ls hH hL
  subst hl
  exact lv_astore_n hC.1.1 hC.1.2.1 hd rfl hL.has hi rfl (fun ls' hl' => kk p lc e R s m args below meth c D dA b base Q hC hR hk H locs ls' hH (sx_L.set (v := sx_p a) hnl hl'))
theorem sx_astore {i : Nat} {a : Nat} (hd : decode y.2.1 pc = .ok (.astore i, 2)) (hi : i < y.2.2.1) (hnl : sx_nl l i = true) {l' : List (Option sx_v)} (hl : l.set i (some (sx_p a)) = l') (kk : sx_V y k L xs cs (pc + 2) l' st h post) : sx_V y k L xs cs pc l (sx_p a :: st) h post := by
  intro p lc e R s m args below meth c D dA b base Q hC hR hk H locs ls hH hL
  subst hl
  exact lv_astore hC.1.1 hC.1.2.1 hd hL.has hi rfl (fun ls' hl' => kk p lc e R s m args below meth c D dA b base Q hC hR hk H locs ls' hH (sx_L.set (v := sx_p a) hnl hl'))
theorem sx_iinc {i : Nat} {n z : Int} (hd : decode y.2.1 pc = .ok (.iinc i n, 3)) (hl : l[i]? = some (some (.inl z))) (hi : i < y.2.2.1) (hnl : sx_nl l i = true) {l' : List (Option sx_v)} (hl' : l.set i (some (.inl (z + n))) = l') (kk : sx_V y k L xs cs (pc + 3) l' st h post) : sx_V y k L xs cs pc l st h post := by
  intro p lc e R s m args below meth c D dA b base Q hC hR hk H locs ls hH hL
  subst hl'
  obtain ⟨j, hj⟩ := List.getElem?_of_mem ((sx_ll_mem (b := b) (base := base)).mpr ⟨.inl z, hl, rfl⟩)
  exact lv_iinc hC.1.1 hC.1.2.1 hd hL.has hj (Int32.ofInt_add z n).symm hi rfl (fun ls' hl' => kk p lc e R s m args below meth c D dA b base Q hC hR hk H locs ls' hH (sx_L.set (v := .inl (z + n)) hnl hl'))
theorem sx_iadd {x z : Int} (hd : decode y.2.1 pc = .ok (.iadd, 1)) (kk : sx_V y k L xs cs (pc + 1) l (.inl (x + z) :: st) h post) : sx_V y k L xs cs pc l (.inl z :: .inl x :: st) h post := by
  intro p lc e R s m args below meth c D dA b base Q hC hR hk H locs ls hH hL
  refine lv_iadd hC.1.1 hC.1.2.1 hd ?_
  rw [← Int32.ofInt_add]
  exact kk p lc e R s m args below meth c D dA b base Q hC hR hk H locs ls hH hL
theorem sx_isub {x z : Int} (hd : decode y.2.1 pc = .ok (.isub, 1)) (kk : sx_V y k L xs cs (pc + 1) l (.inl (x - z) :: st) h post) : sx_V y k L xs cs pc l (.inl z :: .inl x :: st) h post := by
  intro p lc e R s m args below meth c D dA b base Q hC hR hk H locs ls hH hL
  refine lv_isub hC.1.1 hC.1.2.1 hd ?_
  rw [← Int32.ofInt_sub]
  exact kk p lc e R s m args below meth c D dA b base Q hC hR hk H locs ls hH hL
theorem sx_imul {x z : Int} (hd : decode y.2.1 pc = .ok (.imul, 1)) (kk : sx_V y k L xs cs (pc + 1) l (.inl (x * z) :: st) h post) : sx_V y k L xs cs pc l (.inl z :: .inl x :: st) h post := by
  intro p lc e R s m args below meth c D dA b base Q hC hR hk H locs ls hH hL
  refine lv_imul hC.1.1 hC.1.2.1 hd ?_
  rw [← Int32.ofInt_mul]
  exact kk p lc e R s m args below meth c D dA b base Q hC hR hk H locs ls hH hL
theorem sx_ineg {x : Int} (hd : decode y.2.1 pc = .ok (.ineg, 1)) (kk : sx_V y k L xs cs (pc + 1) l (.inl (-x) :: st) h post) : sx_V y k L xs cs pc l (.inl x :: st) h post := by
  intro p lc e R s m args below meth c D dA b base Q hC hR hk H locs ls hH hL
  refine lv_ineg hC.1.1 hC.1.2.1 hd ?_
  rw [← Int32.ofInt_neg]
  exact kk p lc e R s m args below meth c D dA b base Q hC hR hk H locs ls hH hL
theorem sx_iand {x z : Int} (hd : decode y.2.1 pc = .ok (.iand, 1)) (kk : sx_V y k L xs cs (pc + 1) l (.inl (Int32.ofInt x &&& Int32.ofInt z).toInt :: st) h post) : sx_V y k L xs cs pc l (.inl z :: .inl x :: st) h post := by
  intro p lc e R s m args below meth c D dA b base Q hC hR hk H locs ls hH hL
  refine lv_iand hC.1.1 hC.1.2.1 hd ?_
  have h1 := kk p lc e R s m args below meth c D dA b base Q hC hR hk H locs ls hH hL
  simp only [List.map_cons, sx_e, Int32.ofInt_toInt] at h1
  exact h1
theorem sx_idiv {x z : Int} (hd : decode y.2.1 pc = .ok (.idiv, 1)) (hx : sx_r x) (hz : sx_r z) (h0 : z ≠ 0) (kk : sx_V y k L xs cs (pc + 1) l (.inl (x.tdiv z) :: st) h post) : sx_V y k L xs cs pc l (.inl z :: .inl x :: st) h post := by
  intro p lc e R s m args below meth c D dA b base Q hC hR hk H locs ls hH hL
  refine lv_idiv hC.1.1 hC.1.2.1 hd (fun q => h0 ((sx_eq hz sx_r0).mp q)) ?_
  rw [sx_div hx hz]
  exact kk p lc e R s m args below meth c D dA b base Q hC hR hk H locs ls hH hL
theorem sx_irem {x z : Int} (hd : decode y.2.1 pc = .ok (.irem, 1)) (hx : sx_r x) (hz : sx_r z) (h0 : z ≠ 0) (kk : sx_V y k L xs cs (pc + 1) l (.inl (x.tmod z) :: st) h post) : sx_V y k L xs cs pc l (.inl z :: .inl x :: st) h post := by
  intro p lc e R s m args below meth c D dA b base Q hC hR hk H locs ls hH hL
  refine lv_irem hC.1.1 hC.1.2.1 hd (fun q => h0 ((sx_eq hz sx_r0).mp q)) ?_
  rw [sx_div hx hz, ← Int32.ofInt_mul, ← Int32.ofInt_sub, show x - x.tdiv z * z = x.tmod z by rw [Int.tmod_def, Int.mul_comm]]
  exact kk p lc e R s m args below meth c D dA b base Q hC hR hk H locs ls hH hL
theorem sx_goto {off : Int} {tgt : Nat} (hd : decode y.2.1 pc = .ok (.goto off, 3)) (ht : (pc : Int) + off = (tgt : Int)) (kk : sx_V y k L xs cs tgt l st h post) : sx_V y k L xs cs pc l st h post := by
  intro p lc e R s m args below meth c D dA b base Q hC hR hk H locs ls hH hL
  exact lv_goto hC.1.1 hC.1.2.1 hd ht (kk p lc e R s m args below meth c D dA b base Q hC hR hk H locs ls hH hL)
theorem sx_dup {v : sx_v} (hv : sx_ct v = 1) (hd : decode y.2.1 pc = .ok (.dup, 1)) (kk : sx_V y k L xs cs (pc + 1) l (v :: v :: st) h post) : sx_V y k L xs cs pc l (v :: st) h post := by
  intro p lc e R s m args below meth c D dA b base Q hC hR hk H locs ls hH hL
  exact lv_dup hC.1.1 hC.1.2.1 hd (sx_e_cat b base hv) (kk p lc e R s m args below meth c D dA b base Q hC hR hk H locs ls hH hL)
theorem sx_pop {v : sx_v} (hv : sx_ct v = 1) (hd : decode y.2.1 pc = .ok (.pop, 1)) (kk : sx_V y k L xs cs (pc + 1) l st h post) : sx_V y k L xs cs pc l (v :: st) h post := by
  intro p lc e R s m args below meth c D dA b base Q hC hR hk H locs ls hH hL
  exact lv_pop hC.1.1 hC.1.2.1 hd (sx_e_cat b base hv) (kk p lc e R s m args below meth c D dA b base Q hC hR hk H locs ls hH hL)
theorem sx_dup2 {v w : sx_v} (hv : sx_ct v = 1) (hw : sx_ct w = 1) (hd : decode y.2.1 pc = .ok (.dup2, 1)) (kk : sx_V y k L xs cs (pc + 1) l (v :: w :: v :: w :: st) h post) : sx_V y k L xs cs pc l (v :: w :: st) h post := by
  intro p lc e R s m args below meth c D dA b base Q hC hR hk H locs ls hH hL
  exact lv_dup2_11 hC.1.1 hC.1.2.1 hd (sx_e_cat b base hv) (sx_e_cat b base hw) (kk p lc e R s m args below meth c D dA b base Q hC hR hk H locs ls hH hL)
theorem sx_retI {z : Int} (hd : decode y.2.1 pc = .ok (.ireturn, 1)) (hr : y.2.2.2 = some .int ∨ (y.2.2.2 = some .boolean ∧ (z = 0 ∨ z = 1))) (hc : cs.1 ≤ k.2.1 ∧ cs.2 ≤ k.2.2) (hp : post (some (.inl z)) h) : sx_V y k L xs cs pc l [.inl z] h post := by
  intro p lc e R s m args below meth c D dA b base Q hC hR hk H locs ls hH hL
  exact W.widen hc.1 hc.2 (hk pc ls H locs (some (.inl z)) h hp hH ⟨hd, hr⟩)
theorem sx_retV (hd : decode y.2.1 pc = .ok (.return_, 1)) (hr : y.2.2.2 = none) (hc : cs.1 ≤ k.2.1 ∧ cs.2 ≤ k.2.2) (hp : post none h) : sx_V y k L xs cs pc l [] h post := by
  intro p lc e R s m args below meth c D dA b base Q hC hR hk H locs ls hH hL
  exact W.widen hc.1 hc.2 (hk pc ls H locs none h hp hH ⟨hd, hr⟩)
theorem sx_ixor {x z : Int} (hd : decode y.2.1 pc = .ok (.ixor, 1)) (kk : sx_V y k L xs cs (pc + 1) l (.inl (Int32.ofInt x ^^^ Int32.ofInt z).toInt :: st) h post) : sx_V y k L xs cs pc l (.inl z :: .inl x :: st) h post := by
  intro p lc e R s m args below meth c D dA b base Q hC hR hk H locs ls hH hL
  refine lv_ixor hC.1.1 hC.1.2.1 hd ?_
  have h1 := kk p lc e R s m args below meth c D dA b base Q hC hR hk H locs ls hH hL
  simp only [List.map_cons, sx_e, Int32.ofInt_toInt] at h1
  exact h1
theorem sx_i2l {x : Int} (hd : decode y.2.1 pc = .ok (.i2l, 1)) (hx : sx_r x) (kk : sx_V y k L xs cs (pc + 1) l (sx_l x :: st) h post) : sx_V y k L xs cs pc l (.inl x :: st) h post := by
  intro p lc e R s m args below meth c D dA b base Q hC hR hk H locs ls hH hL
  refine lv_i2l hC.1.1 hC.1.2.1 hd (v := Int64.ofInt x) ?_ (kk p lc e R s m args below meth c D dA b base Q hC hR hk H locs ls hH hL)
  rw [← Int64.toInt_inj, Int32.toInt_toInt64, sx_ti hx, Int64.toInt_ofInt_of_le (by have := hx.1; omega) (by have := hx.2; omega)]
theorem sx_ladd {x z : Int} (hd : decode y.2.1 pc = .ok (.ladd, 1)) (kk : sx_V y k L xs cs (pc + 1) l (sx_l (x + z) :: st) h post) : sx_V y k L xs cs pc l (sx_l z :: sx_l x :: st) h post := by
  intro p lc e R s m args below meth c D dA b base Q hC hR hk H locs ls hH hL
  refine lv_ladd hC.1.1 hC.1.2.1 hd ?_
  rw [← Int64.ofInt_add]
  exact kk p lc e R s m args below meth c D dA b base Q hC hR hk H locs ls hH hL
theorem sx_lmul {x z : Int} (hd : decode y.2.1 pc = .ok (.lmul, 1)) (kk : sx_V y k L xs cs (pc + 1) l (sx_l (x * z) :: st) h post) : sx_V y k L xs cs pc l (sx_l z :: sx_l x :: st) h post := by
  intro p lc e R s m args below meth c D dA b base Q hC hR hk H locs ls hH hL
  refine lv_lmul hC.1.1 hC.1.2.1 hd ?_
  rw [← Int64.ofInt_mul]
  exact kk p lc e R s m args below meth c D dA b base Q hC hR hk H locs ls hH hL
abbrev sx_r6 (z : Int) : Prop := -9223372036854775808 ≤ z ∧ z ≤ 9223372036854775807
theorem sx_t6 {z : Int} (h : sx_r6 z) : (Int64.ofInt z).toInt = z := Int64.toInt_ofInt_of_le (by have := h.1; omega) (by have := h.2; omega)
theorem sx_lcmp {x z : Int} (hd : decode y.2.1 pc = .ok (.lcmp, 1)) (hx : sx_r6 x) (hz : sx_r6 z) {w : Int} (hw : w = if x < z then -1 else if x = z then 0 else 1) (kk : sx_V y k L xs cs (pc + 1) l (.inl w :: st) h post) : sx_V y k L xs cs pc l (sx_l z :: sx_l x :: st) h post := by
  intro p lc e R s m args below meth c D dA b base Q hC hR hk H locs ls hH hL
  refine W.lcmp hC.1.1 hC.1.2.1 hd ?_
  have h1 := kk p lc e R s m args below meth c D dA b base Q hC hR hk H locs ls hH hL
  have e : lg_cmp (Int64.ofInt x) (Int64.ofInt z) = Int32.ofInt w := by
    rw [hw]
    simp only [lg_cmp, Int64.lt_iff_toInt_lt, ← Int64.toInt_inj, sx_t6 hx, sx_t6 hz]
    rcases Int.lt_trichotomy x z with q | q | q
    · simp [q, show ¬ z < x by omega, show ¬ x = z by omega]
    · simp [q]
    · simp [q, show ¬ x < z by omega, show ¬ x = z by omega]
  rw [e]
  exact h1
theorem sx_lload {i : Nat} {z : Int} (hd : decode y.2.1 pc = .ok (.lload i, 2)) (hl : l[i]? = some (some (sx_l z))) (kk : sx_V y k L xs cs (pc + 2) l (sx_l z :: st) h post) : sx_V y k L xs cs pc l st h post := by
  intro p lc e R s m args below meth c D dA b base Q hC hR hk H locs ls hH hL
  exact lv_lload hC.1.1 hC.1.2.1 hd (hL.2.2 _ _ hl) (kk p lc e R s m args below meth c D dA b base Q hC hR hk H locs ls hH hL)
theorem sx_lstore {i : Nat} {z : Int} (hd : decode y.2.1 pc = .ok (.lstore i, 2)) (hi : i + 1 < y.2.2.1) (hnl : sx_nl l i = true) {l' : List (Option sx_v)} (hl : (l.set i (some (sx_l z))).set (i + 1) none = l') (kk : sx_V y k L xs cs (pc + 2) l' st h post) : sx_V y k L xs cs pc l (sx_l z :: st) h post := by
  intro p lc e R s m args below meth c D dA b base Q hC hR hk H locs ls hH hL
  subst hl
  exact lv_lstore hC.1.1 hC.1.2.1 hd hL.has hi rfl (fun ls' hl' => kk p lc e R s m args below meth c D dA b base Q hC hR hk H locs ls' hH (sx_L.set2 (v := sx_l z) hnl hl'))
end SXA
end
section
section SXB
variable {y : sx_Y} {k : Nat × Nat × Nat} {L : Nat} {xs : Nat → Int32} {cs : Nat × Nat} {pc : Nat} {l : List (Option sx_v)} {st : List sx_v} {h : sx_h} {post : Option sx_v → sx_h → Prop}
theorem sx_icmp_eq {x z : Int} {off : Int} {tgt : Nat} (hd : decode y.2.1 pc = .ok (.if_icmp .eq off, 3)) (ht : (pc : Int) + off = (tgt : Int)) (hx : sx_r x) (hz : sx_r z) (kt : x = z → sx_V y k L xs cs tgt l st h post) (kf : x ≠ z → sx_V y k L xs cs (pc + 3) l st h post) : sx_V y k L xs cs pc l (.inl z :: .inl x :: st) h post := by
  intro p lc e R s m args below meth c D dA b base Q hC hR hk H locs ls hH hL
  exact lv_icmp_eq hC.1.1 hC.1.2.1 hd ht (fun q => kt ((sx_eq hx hz).mp q) p lc e R s m args below meth c D dA b base Q hC hR hk H locs ls hH hL) (fun q => kf (fun w => q ((sx_eq hx hz).mpr w)) p lc e R s m args below meth c D dA b base Q hC hR hk H locs ls hH hL)
theorem sx_if_eq {x : Int} {off : Int} {tgt : Nat} (hd : decode y.2.1 pc = .ok (.ifCond .eq off, 3)) (ht : (pc : Int) + off = (tgt : Int)) (hx : sx_r x) (kt : x = 0 → sx_V y k L xs cs tgt l st h post) (kf : x ≠ 0 → sx_V y k L xs cs (pc + 3) l st h post) : sx_V y k L xs cs pc l (.inl x :: st) h post := by
  intro p lc e R s m args below meth c D dA b base Q hC hR hk H locs ls hH hL
  have hz := sx_r0
  exact lv_if_eq hC.1.1 hC.1.2.1 hd ht (fun q => kt ((sx_eq hx hz).mp q) p lc e R s m args below meth c D dA b base Q hC hR hk H locs ls hH hL) (fun q => kf (fun w => q ((sx_eq hx hz).mpr w)) p lc e R s m args below meth c D dA b base Q hC hR hk H locs ls hH hL)
theorem sx_icmp_ne {x z : Int} {off : Int} {tgt : Nat} (hd : decode y.2.1 pc = .ok (.if_icmp .ne off, 3)) (ht : (pc : Int) + off = (tgt : Int)) (hx : sx_r x) (hz : sx_r z) (kt : x ≠ z → sx_V y k L xs cs tgt l st h post) (kf : x = z → sx_V y k L xs cs (pc + 3) l st h post) : sx_V y k L xs cs pc l (.inl z :: .inl x :: st) h post := by
  intro p lc e R s m args below meth c D dA b base Q hC hR hk H locs ls hH hL
  exact lv_icmp_ne hC.1.1 hC.1.2.1 hd ht (fun q => kt (fun w => q ((sx_eq hx hz).mpr w)) p lc e R s m args below meth c D dA b base Q hC hR hk H locs ls hH hL) (fun q => kf ((sx_eq hx hz).mp q) p lc e R s m args below meth c D dA b base Q hC hR hk H locs ls hH hL)
theorem sx_if_ne {x : Int} {off : Int} {tgt : Nat} (hd : decode y.2.1 pc = .ok (.ifCond .ne off, 3)) (ht : (pc : Int) + off = (tgt : Int)) (hx : sx_r x) (kt : x ≠ 0 → sx_V y k L xs cs tgt l st h post) (kf : x = 0 → sx_V y k L xs cs (pc + 3) l st h post) : sx_V y k L xs cs pc l (.inl x :: st) h post := by
  intro p lc e R s m args below meth c D dA b base Q hC hR hk H locs ls hH hL
  have hz := sx_r0
  exact lv_if_ne hC.1.1 hC.1.2.1 hd ht (fun q => kt (fun w => q ((sx_eq hx hz).mpr w)) p lc e R s m args below meth c D dA b base Q hC hR hk H locs ls hH hL) (fun q => kf ((sx_eq hx hz).mp q) p lc e R s m args below meth c D dA b base Q hC hR hk H locs ls hH hL)
theorem sx_icmp_lt {x z : Int} {off : Int} {tgt : Nat} (hd : decode y.2.1 pc = .ok (.if_icmp .lt off, 3)) (ht : (pc : Int) + off = (tgt : Int)) (hx : sx_r x) (hz : sx_r z) (kt : x < z → sx_V y k L xs cs tgt l st h post) (kf : z ≤ x → sx_V y k L xs cs (pc + 3) l st h post) : sx_V y k L xs cs pc l (.inl z :: .inl x :: st) h post := by
  intro p lc e R s m args below meth c D dA b base Q hC hR hk H locs ls hH hL
  exact lv_icmp_lt hC.1.1 hC.1.2.1 hd ht (fun q => kt ((sx_lt hx hz).mp q) p lc e R s m args below meth c D dA b base Q hC hR hk H locs ls hH hL) (fun q => kf (by have q2 := (not_congr (sx_lt hx hz)).mp q; omega) p lc e R s m args below meth c D dA b base Q hC hR hk H locs ls hH hL)
theorem sx_if_lt {x : Int} {off : Int} {tgt : Nat} (hd : decode y.2.1 pc = .ok (.ifCond .lt off, 3)) (ht : (pc : Int) + off = (tgt : Int)) (hx : sx_r x) (kt : x < 0 → sx_V y k L xs cs tgt l st h post) (kf : 0 ≤ x → sx_V y k L xs cs (pc + 3) l st h post) : sx_V y k L xs cs pc l (.inl x :: st) h post := by
  intro p lc e R s m args below meth c D dA b base Q hC hR hk H locs ls hH hL
  have hz := sx_r0
  exact lv_if_lt hC.1.1 hC.1.2.1 hd ht (fun q => kt ((sx_lt hx hz).mp q) p lc e R s m args below meth c D dA b base Q hC hR hk H locs ls hH hL) (fun q => kf (by have q2 := (not_congr (sx_lt hx hz)).mp q; omega) p lc e R s m args below meth c D dA b base Q hC hR hk H locs ls hH hL)
theorem sx_icmp_ge {x z : Int} {off : Int} {tgt : Nat} (hd : decode y.2.1 pc = .ok (.if_icmp .ge off, 3)) (ht : (pc : Int) + off = (tgt : Int)) (hx : sx_r x) (hz : sx_r z) (kt : z ≤ x → sx_V y k L xs cs tgt l st h post) (kf : x < z → sx_V y k L xs cs (pc + 3) l st h post) : sx_V y k L xs cs pc l (.inl z :: .inl x :: st) h post := by
  intro p lc e R s m args below meth c D dA b base Q hC hR hk H locs ls hH hL
  exact lv_icmp_ge hC.1.1 hC.1.2.1 hd ht (fun q => kt ((sx_le hz hx).mp q) p lc e R s m args below meth c D dA b base Q hC hR hk H locs ls hH hL) (fun q => kf (by have q2 := (not_congr (sx_le hz hx)).mp q; omega) p lc e R s m args below meth c D dA b base Q hC hR hk H locs ls hH hL)
theorem sx_if_ge {x : Int} {off : Int} {tgt : Nat} (hd : decode y.2.1 pc = .ok (.ifCond .ge off, 3)) (ht : (pc : Int) + off = (tgt : Int)) (hx : sx_r x) (kt : 0 ≤ x → sx_V y k L xs cs tgt l st h post) (kf : x < 0 → sx_V y k L xs cs (pc + 3) l st h post) : sx_V y k L xs cs pc l (.inl x :: st) h post := by
  intro p lc e R s m args below meth c D dA b base Q hC hR hk H locs ls hH hL
  have hz := sx_r0
  exact lv_if_ge hC.1.1 hC.1.2.1 hd ht (fun q => kt ((sx_le hz hx).mp q) p lc e R s m args below meth c D dA b base Q hC hR hk H locs ls hH hL) (fun q => kf (by have q2 := (not_congr (sx_le hz hx)).mp q; omega) p lc e R s m args below meth c D dA b base Q hC hR hk H locs ls hH hL)
theorem sx_icmp_gt {x z : Int} {off : Int} {tgt : Nat} (hd : decode y.2.1 pc = .ok (.if_icmp .gt off, 3)) (ht : (pc : Int) + off = (tgt : Int)) (hx : sx_r x) (hz : sx_r z) (kt : z < x → sx_V y k L xs cs tgt l st h post) (kf : x ≤ z → sx_V y k L xs cs (pc + 3) l st h post) : sx_V y k L xs cs pc l (.inl z :: .inl x :: st) h post := by
  intro p lc e R s m args below meth c D dA b base Q hC hR hk H locs ls hH hL
  exact lv_icmp_gt hC.1.1 hC.1.2.1 hd ht (fun q => kt ((sx_lt hz hx).mp q) p lc e R s m args below meth c D dA b base Q hC hR hk H locs ls hH hL) (fun q => kf (by have q2 := (not_congr (sx_lt hz hx)).mp q; omega) p lc e R s m args below meth c D dA b base Q hC hR hk H locs ls hH hL)
theorem sx_if_gt {x : Int} {off : Int} {tgt : Nat} (hd : decode y.2.1 pc = .ok (.ifCond .gt off, 3)) (ht : (pc : Int) + off = (tgt : Int)) (hx : sx_r x) (kt : 0 < x → sx_V y k L xs cs tgt l st h post) (kf : x ≤ 0 → sx_V y k L xs cs (pc + 3) l st h post) : sx_V y k L xs cs pc l (.inl x :: st) h post := by
  intro p lc e R s m args below meth c D dA b base Q hC hR hk H locs ls hH hL
  have hz := sx_r0
  exact lv_if_gt hC.1.1 hC.1.2.1 hd ht (fun q => kt ((sx_lt hz hx).mp q) p lc e R s m args below meth c D dA b base Q hC hR hk H locs ls hH hL) (fun q => kf (by have q2 := (not_congr (sx_lt hz hx)).mp q; omega) p lc e R s m args below meth c D dA b base Q hC hR hk H locs ls hH hL)
theorem sx_icmp_le {x z : Int} {off : Int} {tgt : Nat} (hd : decode y.2.1 pc = .ok (.if_icmp .le off, 3)) (ht : (pc : Int) + off = (tgt : Int)) (hx : sx_r x) (hz : sx_r z) (kt : x ≤ z → sx_V y k L xs cs tgt l st h post) (kf : z < x → sx_V y k L xs cs (pc + 3) l st h post) : sx_V y k L xs cs pc l (.inl z :: .inl x :: st) h post := by
  intro p lc e R s m args below meth c D dA b base Q hC hR hk H locs ls hH hL
  exact lv_icmp_le hC.1.1 hC.1.2.1 hd ht (fun q => kt ((sx_le hx hz).mp q) p lc e R s m args below meth c D dA b base Q hC hR hk H locs ls hH hL) (fun q => kf (by have q2 := (not_congr (sx_le hx hz)).mp q; omega) p lc e R s m args below meth c D dA b base Q hC hR hk H locs ls hH hL)
theorem sx_if_le {x : Int} {off : Int} {tgt : Nat} (hd : decode y.2.1 pc = .ok (.ifCond .le off, 3)) (ht : (pc : Int) + off = (tgt : Int)) (hx : sx_r x) (kt : x ≤ 0 → sx_V y k L xs cs tgt l st h post) (kf : 0 < x → sx_V y k L xs cs (pc + 3) l st h post) : sx_V y k L xs cs pc l (.inl x :: st) h post := by
  intro p lc e R s m args below meth c D dA b base Q hC hR hk H locs ls hH hL
  have hz := sx_r0
  exact lv_if_le hC.1.1 hC.1.2.1 hd ht (fun q => kt ((sx_le hx hz).mp q) p lc e R s m args below meth c D dA b base Q hC hR hk H locs ls hH hL) (fun q => kf (by have q2 := (not_congr (sx_le hx hz)).mp q; omega) p lc e R s m args below meth c D dA b base Q hC hR hk H locs ls hH hL)
theorem sx_tswIn {dflt lo hi : Int} {offs : Array Int} {len : Nat} {x off : Int} {tgt : Nat} (hd : decode y.2.1 pc = .ok (.tableswitch dflt lo hi offs, len)) (hx : sx_r x) (h1 : lo ≤ x) (h2 : x ≤ hi) (ho : offs[(x - lo).toNat]? = some off) (ht : (pc : Int) + off = (tgt : Int)) (kk : sx_V y k L xs cs tgt l st h post) : sx_V y k L xs cs pc l (.inl x :: st) h post := by
  intro p lc e R s m args below meth c D dA b base Q hC hR hk H locs ls hH hL
  exact lv_tableIn hC.1.1 hC.1.2.1 hd (by rw [sx_ti hx]; omega) (by rw [sx_ti hx]; omega) (by rw [sx_ti hx]; exact ho) ht (kk p lc e R s m args below meth c D dA b base Q hC hR hk H locs ls hH hL)
theorem sx_tswOut {dflt lo hi : Int} {offs : Array Int} {len : Nat} {x : Int} {tgt : Nat} (hd : decode y.2.1 pc = .ok (.tableswitch dflt lo hi offs, len)) (hx : sx_r x) (h1 : x < lo ∨ hi < x) (ht : (pc : Int) + dflt = (tgt : Int)) (kk : sx_V y k L xs cs tgt l st h post) : sx_V y k L xs cs pc l (.inl x :: st) h post := by
  intro p lc e R s m args below meth c D dA b base Q hC hR hk H locs ls hH hL
  exact lv_tableOut hC.1.1 hC.1.2.1 hd (by rw [sx_ti hx]; exact h1) ht (kk p lc e R s m args below meth c D dA b base Q hC hR hk H locs ls hH hL)
end SXB
end
section
/-- field kf of class ci, by the pool of class own -/
def sx_fl (own : String) (idx ci kf : Nat) : Prop := ∃ q : vw_C, sx_cl[ci]? = some q ∧ kf < q.2.2 ∧ Cond.fieldLink own idx (q.2.1 kf).1 (q.2.1 kf).2.1 (q.2.1 kf).2.2.1 ∈ sx_T
theorem sx_rangeset {α : Type} (f : Nat → α) (n k : Nat) (v : α) : ((List.range n).map f).set k v = (List.range n).map (fun j => if j = k then v else f j) := by
  apply List.ext_getElem?
  intro i
  by_cases hik : i = k
  · subst hik
    by_cases hl : i < n
    · rw [List.getElem?_set_self (by simpa using hl)]
      simp [hl]
    · rw [List.getElem?_eq_none (by simp; omega), List.getElem?_eq_none (by simp; omega)]
  · rw [List.getElem?_set_ne (Ne.symm hik)]
    by_cases hl : i < n
    · simp [hl, hik]
    · rw [List.getElem?_eq_none (by simp; omega), List.getElem?_eq_none (by simp; omega)]
section SXH
variable {y : sx_Y} {k : Nat × Nat × Nat} {L : Nat} {xs : Nat → Int32} {cs : Nat × Nat} {pc : Nat} {l : List (Option sx_v)} {st : List sx_v} {h : sx_h} {post : Option sx_v → sx_h → Prop}
theorem sx_getI {idx a ci n kf : Nat} (hd : decode y.2.1 pc = .ok (.getfield idx, 3)) (hf : sx_fl y.1.cls idx ci kf) (ho : sx_o h a ci n) (hi : sx_isI ci kf = true) (hn : kf < n) (h100 : ci < 100) {z : Int} (hz : h.2.2.1 a kf = z) (kk : sx_V y k L xs cs (pc + 3) l (.inl z :: st) h post) : sx_V y k L xs cs pc l (sx_p a :: st) h post := by
  intro p lc e R s m args below meth c D dA b base Q hC hR hk H locs ls hH hL
  subst hz
  obtain ⟨⟨C, T, N⟩, hq, hk2, hw⟩ := hf
  refine va_get hC.1.1 hC.1.2.1 hC.1.2.2.2.2 (sx_cls ci _ hq).1 hC.1.2.2.2.1 hC.2.2.2.2.1 hH.1 (a - 1) (ho.obj h100) hq kf hk2 (hC.1.2.2.2.2 _ hw) (fun _ h9 => h9) (v := .int (Int32.ofInt (h.2.2.1 a kf))) ?_ hd (kk p lc e R s m args below meth c D dA b base Q hC hR hk H locs ls hH hL)
  simp [hn, sx_fv, hi]
theorem sx_getR {idx a ci n kf : Nat} {r : Option Nat} (hd : decode y.2.1 pc = .ok (.getfield idx, 3)) (hf : sx_fl y.1.cls idx ci kf) (ho : sx_o h a ci n) (hi : sx_isI ci kf = false) (hn : kf < n) (h100 : ci < 100) (hr : h.2.2.2 a kf = r) (kk : sx_V y k L xs cs (pc + 3) l (.inr (.inl r) :: st) h post) : sx_V y k L xs cs pc l (sx_p a :: st) h post := by
  intro p lc e R s m args below meth c D dA b base Q hC hR hk H locs ls hH hL
  subst hr
  obtain ⟨⟨C, T, N⟩, hq, hk2, hw⟩ := hf
  refine va_get hC.1.1 hC.1.2.1 hC.1.2.2.2.2 (sx_cls ci _ hq).1 hC.1.2.2.2.1 hC.2.2.2.2.1 hH.1 (a - 1) (ho.obj h100) hq kf hk2 (hC.1.2.2.2.2 _ hw) (fun _ h9 => h9) (v := va_rf ((h.2.2.2 a kf).map (sx_ad b base))) ?_ hd (kk p lc e R s m args below meth c D dA b base Q hC hR hk H locs ls hH hL)
  simp [hn, sx_fv, hi]
/-- a store into a field: the machine's part, final or not -/
theorem sx_put0 {p : Program} {lc : Launch} {e : Env} {R : Room} {s : State} {m : MethodId} {args : Array Value} {below : List Frame} {meth : Method} {c : Code} {D : va_G} {dA : Nat → ClassId} {b base : Nat} {Q : State → Prop} {H : Heap} {locs : List Loc} {ls : Array Slot} {rest : List Value} {cells slots : Nat} {h' : sx_h}
    (hC : sx_C y p s m args meth c D dA b base L xs) (hH : sx_H D dA b base s H locs h) {idx a ci n kf : Nat} {v : Value} (hd : decode y.2.1 pc = .ok (.putfield idx, 3)) (hf : sx_fl y.1.cls idx ci kf) (ho : sx_o h a ci n) (hn : kf < n) (h100 : ci < 100)
    (hfin : ∀ q : vw_C, sx_cl[ci]? = some q → (q.2.1 kf).2.2.2 = false ∨ ((q.2.1 kf).2.2.2 = true ∧ y.1.name = "<init>" ∧ (q.2.1 kf).1 = y.1.cls)) (hnw : narrow (sx_fty ci kf) v = v) (hft : fits (sx_fty ci kf) v = true)
    (h1 : h'.1 = h.1) (hs : h'.2.1 = h.2.1) (hv : sx_fv b base h' ci a kf = v) (hv2 : ∀ j, j ≠ kf → sx_fv b base h' ci a j = sx_fv b base h ci a j) (hx : ∀ a', a' ≠ a → sx_cell dA b base h' a' = sx_cell dA b base h a')
    (kk : ∀ (H1 : Heap) (locs1 : List Loc), sx_H D dA b base s H1 locs1 h' → W p lc e R s m args below meth c H1 locs1 cells slots Q (F0 m (pc + 3) ls rest)) : W p lc e R s m args below meth c H locs cells slots Q (F0 m pc ls (v :: .ref (sx_ad b base a) :: rest)) := by
  obtain ⟨⟨C, T, N⟩, hq, hk2, hw⟩ := hf
  obtain ⟨c1, c2, c3, -⟩ := sx_cls ci _ hq
  have hK := hC.2.2.2.2.1
  have hts := hC.1.2.2.2.2
  have hown := hC.1.2.2.2.1
  have hap := va_apart (own := y.1.cls) hts c1 (sx_fty ci) c2 c3 hK hq
  have he := ho.obj (dA := dA) (b := b) (base := base) h100
  obtain ⟨r, e1, cell, q1, q2, q3, q4⟩ := hH.1 (a - 1) _ he
  have hr : r = (C, T, N) := Option.some.inj (e1.symm.trans hq)
  subst hr
  obtain ⟨hS, hfc, kC, hkC, hkind⟩ := hK.1 ci _ hq
  obtain ⟨cf, kf', fi, f, hi, hsl⟩ := hS kf hk2
  have hlay := hts _ (c1 _ (u_in_lay hk2))
  have hst := (u_facts hfc hkC (u_lays hts c1 hk2) hi).1
  have hlink := hts _ hw
  obtain ⟨h0, hle, hsh⟩ := ho
  obtain ⟨j, rfl⟩ : ∃ j, a = j + 1 := ⟨a - 1, by omega⟩
  have hcell : sx_cell dA b base h' (j + 1) = .inr (ci, ((List.range n).map (sx_fv b base h ci (j + 1))).set kf v) := by
    simp only [sx_cell, hs, hsh, if_pos h100, sx_rangeset]
    congr 2
    apply List.map_congr_left
    intro i _
    by_cases hik : i = kf
    · subst hik
      rw [if_pos rfl, hv]
    · rw [if_neg hik, hv2 i hik]
  have fin : ∀ (H' : Heap), H'[base + j]? = some (cell.setSlot f.slot v) → H'.size = H.size → (∀ q, q ≠ base + j → H'[q]? = H[q]?) → W p lc e R s m args below meth c H' (locs ++ [⟨base + j, f.slot⟩]) cells slots Q (F0 m (pc + 3) ls rest) := by
    intro H' e1 e2 e3
    refine kk H' _ (hH.put (j := j) h1 (by omega) ?_ hx e2 e3)
    rw [hcell]
    rw [hsl] at e1
    exact ⟨_, hq, t_OB.to (V := updV (vp_V ((List.range n).map (sx_fv b base h ci (j + 1)))) kf v) ⟨_, e1, q2, q3, t_set q4 hap hk2 v⟩ (fun i _ => vp_updV_set (by simpa using hn) v i)⟩
  rcases hfin _ hq with hff | ⟨hff, hin2, hdecl⟩
  · unfold u_lay at hlay
    rw [if_neg (by rw [hff]; decide)] at hlay
    have h6 := u_store hfc hkC hkind hlay hi (c2 kf hk2) hnw hft
    exact W.putK hC.1.1 hC.1.2.1 (f := f) ⟨hown, hlink, ⟨_, _, _, hi⟩, hst⟩ (by rw [q2]; exact h6) q1 q3 (by rw [hsl]; exact k2_hasslot (q4 kf hk2)) rfl rfl hd fun H' e1 e2 e3 => fin H' e1 e2 e3
  · unfold u_lay at hlay
    rw [if_pos hff] at hlay
    have hcf : m.cls = cf := by
      obtain ⟨_, _, c', _, _, _, -, -, hf', -, -, -, hown2, -⟩ := Cond.laysFinal_spec hlay
      have e1 : c' = cf := by have := hi.symm.trans hf'; simp at this; exact this.1.symm
      rw [hdecl] at hown2
      rw [← e1]; exact Option.some.inj (hown.symm.trans hown2)
    have h6 := u_fits hfc hkC hkind (Or.inr hlay) hi (c2 kf hk2) hnw hft
    exact W.putFinK hC.1.1 hC.1.2.1 hown hlink hi hst hcf (hC.2.2.2.1 hin2) (by rw [q2]; exact h6) q1 q3 (by rw [hsl]; exact k2_hasslot (q4 kf hk2)) rfl rfl hd fun H' e1 e2 e3 => fin H' e1 e2 e3
theorem sx_putI {idx a ci n kf : Nat} {z : Int} (hd : decode y.2.1 pc = .ok (.putfield idx, 3)) (hf : sx_fl y.1.cls idx ci kf) (ho : sx_o h a ci n) (hi : sx_isI ci kf = true) (hn : kf < n) (h100 : ci < 100)
    (hfin : ∀ q : vw_C, sx_cl[ci]? = some q → (q.2.1 kf).2.2.2 = false ∨ ((q.2.1 kf).2.2.2 = true ∧ y.1.name = "<init>" ∧ (q.2.1 kf).1 = y.1.cls)) (hz : sx_fty ci kf = .int ∨ (sx_fty ci kf = .boolean ∧ (z = 0 ∨ z = 1)))
    {h2 : sx_h} (hh : sx_m h (sx_u h.2.2.1 a kf z) = h2) (kk : sx_V y k L xs cs (pc + 3) l st h2 post) : sx_V y k L xs cs pc l (.inl z :: sx_p a :: st) h post := by
  intro p lc e R s m args below meth c D dA b base Q hC hR hk H locs ls hH hL
  subst hh
  refine sx_put0 (h' := (h.1, h.2.1, sx_u h.2.2.1 a kf z, h.2.2.2)) hC hH (v := .int (Int32.ofInt z)) hd hf ho hn h100 hfin ?_ ?_ rfl rfl ?_ ?_ ?_ (fun H1 locs1 hH1 => kk p lc e R s m args below meth c D dA b base Q hC hR hk H1 locs1 ls hH1 hL)
  · rcases hz with e1 | ⟨e1, rfl | rfl⟩ <;> rw [e1] <;> rfl
  · rcases hz with e1 | ⟨e1, rfl | rfl⟩ <;> rw [e1] <;> rfl
  · simp [sx_fv, hi, sx_u]
  · intro j hj
    simp [sx_fv, sx_u, hj]
  · intro a' ha'
    exact sx_cell_congr rfl (fun j => sx_u_ne ha' j) (fun _ => rfl)
theorem sx_putR {idx a ci n kf r : Nat} (hd : decode y.2.1 pc = .ok (.putfield idx, 3)) (hf : sx_fl y.1.cls idx ci kf) (ho : sx_o h a ci n) (hi : sx_isI ci kf = false) (hn : kf < n) (h100 : ci < 100)
    (hfin : ∀ q : vw_C, sx_cl[ci]? = some q → (q.2.1 kf).2.2.2 = false ∨ ((q.2.1 kf).2.2.2 = true ∧ y.1.name = "<init>" ∧ (q.2.1 kf).1 = y.1.cls)) (hz : (∃ c, sx_fty ci kf = .object c) ∨ ∃ t, sx_fty ci kf = .array t)
    (kk : sx_V y k L xs cs (pc + 3) l st (h.1, h.2.1, h.2.2.1, sx_ur h.2.2.2 a kf (some r)) post) : sx_V y k L xs cs pc l (sx_p r :: sx_p a :: st) h post := by
  intro p lc e R s m args below meth c D dA b base Q hC hR hk H locs ls hH hL
  refine sx_put0 (h' := (h.1, h.2.1, h.2.2.1, sx_ur h.2.2.2 a kf (some r))) hC hH (v := .ref (sx_ad b base r)) hd hf ho hn h100 hfin ?_ ?_ rfl rfl ?_ ?_ ?_ (fun H1 locs1 hH1 => kk p lc e R s m args below meth c D dA b base Q hC hR hk H1 locs1 ls hH1 hL)
  · rcases hz with ⟨_, e1⟩ | ⟨_, e1⟩ <;> rw [e1] <;> rfl
  · rcases hz with ⟨_, e1⟩ | ⟨_, e1⟩ <;> rw [e1] <;> rfl
  · simp [sx_fv, hi, sx_ur, va_rf]
  · intro j hj
    simp [sx_fv, sx_ur, hj]
  · intro a' ha'
    exact sx_cell_congr rfl (fun _ => rfl) (fun j => sx_ur_ne ha' j)
end SXH
end
section
section SXI
variable {y : sx_Y} {k : Nat × Nat × Nat} {L : Nat} {xs : Nat → Int32} {cs : Nat × Nat} {pc : Nat} {l : List (Option sx_v)} {st : List sx_v} {h : sx_h} {post : Option sx_v → sx_h → Prop}
theorem sx_iald {a n : Nat} {i : Int} (hd : decode y.2.1 pc = .ok (.iaload, 1)) (ho : sx_o h a 100 n) (h0 : 0 ≤ i) (h1 : i < n) (hn : n ≤ 2147483647) {z : Int} (hz : h.2.2.1 a i.toNat = z) (kk : sx_V y k L xs cs (pc + 1) l (.inl z :: st) h post) : sx_V y k L xs cs pc l (.inl i :: sx_p a :: st) h post := by
  intro p lc e R s m args below meth c D dA b base Q hC hR hk H locs ls hH hL
  subst hz
  obtain ⟨hin, hcl⟩ := sx_in h0 h1 hn
  refine va_iald hC.1.1 hC.1.2.1 hC.2.2.2.2.1 hH.1 (a - 1) 0 (ho.ints (by decide) (by decide)) (sx_tys_at (by decide)) hin hd ?_
  rw [hcl]
  exact kk p lc e R s m args below meth c D dA b base Q hC hR hk H locs ls hH hL
theorem sx_zald {a n : Nat} {i : Int} (hd : decode y.2.1 pc = .ok (.baload, 1)) (ho : sx_o h a 101 n) (h0 : 0 ≤ i) (h1 : i < n) (hn : n ≤ 2147483647) {z : Int} (hz : h.2.2.1 a i.toNat = z) (kk : sx_V y k L xs cs (pc + 1) l (.inl z :: st) h post) : sx_V y k L xs cs pc l (.inl i :: sx_p a :: st) h post := by
  intro p lc e R s m args below meth c D dA b base Q hC hR hk H locs ls hH hL
  subst hz
  obtain ⟨hin, hcl⟩ := sx_in h0 h1 hn
  refine va_zald hC.1.1 hC.1.2.1 hC.2.2.2.2.1 hH.1 (a - 1) 1 (ho.ints (by decide) (by decide)) (sx_tys_at (by decide)) hin hd ?_
  rw [hcl]
  exact kk p lc e R s m args below meth c D dA b base Q hC hR hk H locs ls hH hL
theorem sx_aald {a n t : Nat} {C : String} {r : Option Nat} {i : Int} (hd : decode y.2.1 pc = .ok (.aaload, 1)) (ho : sx_o h a (102 + t) n) (hty : sx_ty[t + 2]? = some (.object C)) (h0 : 0 ≤ i) (h1 : i < n) (hn : n ≤ 2147483647) (hr : h.2.2.2 a i.toNat = r) (kk : sx_V y k L xs cs (pc + 1) l (.inr (.inl r) :: st) h post) : sx_V y k L xs cs pc l (.inl i :: sx_p a :: st) h post := by
  intro p lc e R s m args below meth c D dA b base Q hC hR hk H locs ls hH hL
  subst hr
  obtain ⟨hin, hcl⟩ := sx_in h0 h1 hn
  have hlt : t + 2 < sx_ty.length := (List.getElem?_eq_some_iff.mp hty).1
  have e1 := sx_tys_at (dA := dA) hlt
  rw [List.getD_eq_getElem?_getD, hty, Option.getD_some] at e1
  have e2 := ho.refs (dA := dA) (b := b) (base := base) (by omega)
  rw [show 102 + t - 100 = t + 2 by omega] at e2
  refine va_aldq hC.1.1 hC.1.2.1 hC.2.2.2.2.1 hH.1 (a - 1) (t + 2) e2 e1 hin hd ?_
  rw [hcl]
  exact kk p lc e R s m args below meth c D dA b base Q hC hR hk H locs ls hH hL
theorem sx_alenI {a t n : Nat} (hd : decode y.2.1 pc = .ok (.arraylength, 1)) (ho : sx_o h a t n) (ht : t = 100 ∨ t = 101) (kk : sx_V y k L xs cs (pc + 1) l (.inl (n : Int) :: st) h post) : sx_V y k L xs cs pc l (sx_p a :: st) h post := by
  intro p lc e R s m args below meth c D dA b base Q hC hR hk H locs ls hH hL
  have h9 := kk p lc e R s m args below meth c D dA b base Q hC hR hk H locs ls hH hL
  rcases ht with rfl | rfl
  · exact va_alen hC.1.1 hC.1.2.1 hC.2.2.2.2.1 hH.1 (a - 1) 0 (ho.ints (by decide) (by decide)) (sx_tys_at (by decide)) (Int32.ofInt_eq_ofNat (n := n)).symm hd h9
  · exact va_alen hC.1.1 hC.1.2.1 hC.2.2.2.2.1 hH.1 (a - 1) 1 (ho.ints (by decide) (by decide)) (sx_tys_at (by decide)) (Int32.ofInt_eq_ofNat (n := n)).symm hd h9
theorem sx_alenR {a t n : Nat} {C : String} (hd : decode y.2.1 pc = .ok (.arraylength, 1)) (ho : sx_o h a (102 + t) n) (hty : sx_ty[t + 2]? = some (.object C)) (kk : sx_V y k L xs cs (pc + 1) l (.inl (n : Int) :: st) h post) : sx_V y k L xs cs pc l (sx_p a :: st) h post := by
  intro p lc e R s m args below meth c D dA b base Q hC hR hk H locs ls hH hL
  have hlt : t + 2 < sx_ty.length := (List.getElem?_eq_some_iff.mp hty).1
  have e1 := sx_tys_at (dA := dA) hlt
  have e2 := ho.refs (dA := dA) (b := b) (base := base) (by omega)
  rw [show 102 + t - 100 = t + 2 by omega] at e2
  exact va_alen hC.1.1 hC.1.2.1 hC.2.2.2.2.1 hH.1 (a - 1) (t + 2) e2 e1 (Int32.ofInt_eq_ofNat (n := n)).symm hd (kk p lc e R s m args below meth c D dA b base Q hC hR hk H locs ls hH hL)
theorem sx_sld {i : Int} (hd : decode y.2.1 pc = .ok (.iaload, 1)) (h0 : 0 ≤ i) (h1 : i < L) (hn : L ≤ 2147483647) (kk : sx_V y k L xs cs (pc + 1) l (.inl (xs i.toNat).toInt :: st) h post) : sx_V y k L xs cs pc l (.inl i :: sx_p 0 :: st) h post := by
  intro p lc e R s m args below meth c D dA b base Q hC hR hk H locs ls hH hL
  obtain ⟨hin, hcl⟩ := sx_in h0 h1 hn
  obtain ⟨-, -, -, -, -, -, hX, hbb, hbs⟩ := id hC
  have h1 := kk p lc e R s m args below meth c D dA b base Q hC hR hk H locs ls hH hL
  simp only [List.map_cons, sx_e, Int32.ofInt_toInt] at h1
  refine va_sld (b := b) hC.1.1 hC.1.2.1 hX (by omega) (by omega) hH.2.2 hin hd ?_
  rw [hcl]
  exact h1
theorem sx_slen (hd : decode y.2.1 pc = .ok (.arraylength, 1)) (kk : sx_V y k L xs cs (pc + 1) l (.inl (L : Int) :: st) h post) : sx_V y k L xs cs pc l (sx_p 0 :: st) h post := by
  intro p lc e R s m args below meth c D dA b base Q hC hR hk H locs ls hH hL
  obtain ⟨-, -, -, -, -, -, hX, hbb, hbs⟩ := id hC
  have h1 := kk p lc e R s m args below meth c D dA b base Q hC hR hk H locs ls hH hL
  simp only [List.map_cons, sx_e, Int32.ofInt_eq_ofNat] at h1
  exact va_slen (b := b) hC.1.1 hC.1.2.1 hX (by omega) (by omega) hH.2.2 hd h1
theorem sx_iast {a n : Nat} {i z : Int} (hd : decode y.2.1 pc = .ok (.iastore, 1)) (ho : sx_o h a 100 n) (h0 : 0 ≤ i) (h1 : i < n) (hn : n ≤ 2147483647) {h2 : sx_h} (hh : sx_m h (sx_u h.2.2.1 a i.toNat z) = h2) (kk : sx_V y k L xs cs (pc + 1) l st h2 post) : sx_V y k L xs cs pc l (.inl z :: .inl i :: sx_p a :: st) h post := by
  intro p lc e R s m args below meth c D dA b base Q hC hR hk H locs ls hH hL
  subst hh
  obtain ⟨hin, hcl⟩ := sx_in h0 h1 hn
  have hat := hH.1 (a - 1) _ (ho.ints (dA := dA) (b := b) (base := base) (by decide) (by decide))
  obtain ⟨g0, g1, g2⟩ := ho
  obtain ⟨j, rfl⟩ : ∃ j, a = j + 1 := ⟨a - 1, by omega⟩
  refine W.iast hC.1.1 hC.1.2.1 hat ((hC.2.2.2.2.1.2 0 _ (sx_tys_at (by decide))).1 n (fun j' => .int (Int32.ofInt (h.2.2.1 (j + 1) j')))) (fun q => by cases q) (by show ¬ (_ < 0 ∨ (arrV _ _ _).slots.size ≤ _); rw [arrV_size]; exact hin) rfl rfl hd fun H1 e1 z1 oq => ?_
  refine kk p lc e R s m args below meth c D dA b base Q hC hR hk H1 _ ls (hH.put (j := j) (h' := sx_m h (sx_u h.2.2.1 (j + 1) i.toNat z)) rfl (by omega) ?_ (fun a' ha' => sx_cell_congr rfl (fun j' => sx_u_ne ha' j') (fun _ => rfl)) z1 oq) hL
  have hcell : sx_cell dA b base (sx_m h (sx_u h.2.2.1 (j + 1) i.toNat z)) (j + 1) = .inl (dA 0, n, .inl (fun j' => Int32.ofInt (sx_u h.2.2.1 (j + 1) i.toNat z (j + 1) j'))) := by
    simp only [sx_cell, sx_m, g2]; rfl
  rw [hcell]
  show H1[base + j]? = some (vp_cell _ _)
  rw [show H1[base + j]? = _ from e1, vp_cell_i, vp_cell_i, arrV_store, hcl]
  congr 2
  funext q
  by_cases hq : q = i.toNat
  · subst hq
    simp [updV, sx_u]
  · simp [updV, sx_u, hq]
theorem sx_zast {a n : Nat} {i z : Int} (hd : decode y.2.1 pc = .ok (.bastore, 1)) (ho : sx_o h a 101 n) (h0 : 0 ≤ i) (h1 : i < n) (hn : n ≤ 2147483647) (hz : z = 0 ∨ z = 1) {h2 : sx_h} (hh : sx_m h (sx_u h.2.2.1 a i.toNat z) = h2) (kk : sx_V y k L xs cs (pc + 1) l st h2 post) : sx_V y k L xs cs pc l (.inl z :: .inl i :: sx_p a :: st) h post := by
  intro p lc e R s m args below meth c D dA b base Q hC hR hk H locs ls hH hL
  subst hh
  obtain ⟨hin, hcl⟩ := sx_in h0 h1 hn
  have hat := hH.1 (a - 1) _ (ho.ints (dA := dA) (b := b) (base := base) (by decide) (by decide))
  obtain ⟨g0, g1, g2⟩ := ho
  obtain ⟨j, rfl⟩ : ∃ j, a = j + 1 := ⟨a - 1, by omega⟩
  have hnar : narrow .boolean (.int (Int32.ofInt z)) = .int (Int32.ofInt z) := by rcases hz with rfl | rfl <;> rfl
  refine W.zast hC.1.1 hC.1.2.1 hat ((hC.2.2.2.2.1.2 1 _ (sx_tys_at (by decide))).1 n (fun j' => .int (Int32.ofInt (h.2.2.1 (j + 1) j')))) (fun q => by cases q) (by show ¬ (_ < 0 ∨ (arrV _ _ _).slots.size ≤ _); rw [arrV_size]; exact hin) rfl rfl hd fun H1 e1 z1 oq => ?_
  refine kk p lc e R s m args below meth c D dA b base Q hC hR hk H1 _ ls (hH.put (j := j) (h' := sx_m h (sx_u h.2.2.1 (j + 1) i.toNat z)) rfl (by omega) ?_ (fun a' ha' => sx_cell_congr rfl (fun j' => sx_u_ne ha' j') (fun _ => rfl)) z1 oq) hL
  have hcell : sx_cell dA b base (sx_m h (sx_u h.2.2.1 (j + 1) i.toNat z)) (j + 1) = .inl (dA 1, n, .inl (fun j' => Int32.ofInt (sx_u h.2.2.1 (j + 1) i.toNat z (j + 1) j'))) := by
    simp only [sx_cell, sx_m, g2]; rfl
  rw [hcell]
  show H1[base + j]? = some (vp_cell _ _)
  rw [hnar] at e1
  rw [show H1[base + j]? = _ from e1, vp_cell_i, vp_cell_i, arrV_store, hcl]
  congr 2
  funext q
  by_cases hq : q = i.toNat
  · subst hq
    simp [updV, sx_u]
  · simp [updV, sx_u, hq]
theorem sx_aast {a n t r ci nr : Nat} {q : vw_C} {i : Int} (hd : decode y.2.1 pc = .ok (.aastore, 1)) (ho : sx_o h a (102 + t) n) (hq : sx_cl[ci]? = some q) (hty : sx_ty[t + 2]? = some (.object q.1)) (hor : sx_o h r ci nr) (h100 : ci < 100) (h0 : 0 ≤ i) (h1 : i < n) (hn : n ≤ 2147483647) (kk : sx_V y k L xs cs (pc + 1) l st (h.1, h.2.1, h.2.2.1, sx_ur h.2.2.2 a i.toNat (some r)) post) : sx_V y k L xs cs pc l (sx_p r :: .inl i :: sx_p a :: st) h post := by
  intro p lc e R s m args below meth c D dA b base Q hC hR hk H locs ls hH hL
  obtain ⟨hin, hcl⟩ := sx_in h0 h1 hn
  have hK := hC.2.2.2.2.1
  have hlt : t + 2 < sx_ty.length := (List.getElem?_eq_some_iff.mp hty).1
  have e1 := sx_tys_at (dA := dA) hlt
  rw [List.getD_eq_getElem?_getD, hty, Option.getD_some] at e1
  have e2 := ho.refs (dA := dA) (b := b) (base := base) (by omega)
  rw [show 102 + t - 100 = t + 2 by omega] at e2
  have hat := hH.1 (a - 1) _ e2
  obtain ⟨r', hr', cellV, k1, k2, k3, -⟩ := hH.1 (r - 1) _ (hor.obj (dA := dA) (b := b) (base := base) h100)
  have hcls := (hK.1 ci q hq).2
  obtain ⟨kA, comp, f1, f2, f3, -⟩ := (hK.2 (t + 2) _ e1).2
  have hcomp : comp = D.1 ci := Option.some.inj (f3.symm.trans hcls.1)
  subst hcomp
  obtain ⟨kC, hkC, -⟩ := hcls.2
  have hi0 : ¬ Int32.ofInt i < 0 := fun w => hin (Or.inl w)
  have hi1 : (Int32.ofInt i).toNatClampNeg < n := Nat.not_le.mp fun w => hin (Or.inr w)
  obtain ⟨g0, g1, g2⟩ := ho
  obtain ⟨j, rfl⟩ : ∃ j, a = j + 1 := ⟨a - 1, by omega⟩
  refine W.aast hC.1.1 hC.1.2.1 hat (fun q h => by cases h) (fun h => by cases h) f1 f2 rfl hkC ⟨hi0, by show _ < (arrV _ _ _).slots.size; rw [arrV_size]; exact hi1⟩ k1 (fun q h => by rw [k3] at h; cases h) (by rw [k2]; exact hkC) (by rw [k2]; exact va_assign hcls) rfl rfl hd fun H1 e3 z1 oq => ?_
  refine kk p lc e R s m args below meth c D dA b base Q hC hR hk H1 _ ls (hH.put (j := j) rfl (by omega) ?_ (fun a' ha' => sx_cell_congr rfl (fun _ => rfl) (fun j' => sx_ur_ne ha' j')) z1 oq) hL
  have hcell : sx_cell dA b base (h.1, h.2.1, h.2.2.1, sx_ur h.2.2.2 (j + 1) i.toNat (some r)) (j + 1) = .inl (dA (t + 2), n, .inr (.inr (.inr (.inr (fun j' => (sx_ur h.2.2.2 (j + 1) i.toNat (some r) (j + 1) j').map (sx_ad b base)))))) := by
    simp only [sx_cell, g2, if_neg (show ¬ 102 + t < 100 by omega), if_neg (show ¬ 102 + t < 102 by omega), show 102 + t - 100 = t + 2 by omega]
  rw [hcell]
  show H1[base + j]? = some (vp_cell _ _)
  rw [show H1[base + j]? = _ from e3, vp_cell_q, vp_cell_q, arrV_store, hcl]
  congr 2
  funext q
  by_cases hq : q = i.toNat
  · subst hq
    simp [updV, sx_ur, va_rf]
  · simp [updV, sx_ur, hq]
/-- a new cell of zeros -/
def sx_nw (h : sx_h) (t n : Nat) : sx_h := (h.1 + 1, (fun a => if a = h.1 + 1 then (t, n) else h.2.1 a), (fun a j => if a = h.1 + 1 then 0 else h.2.2.1 a j), (fun a j => if a = h.1 + 1 then none else h.2.2.2 a j))
theorem sx_nw1 (h : sx_h) (t n : Nat) : (sx_nw h t n).2.1 (h.1 + 1) = (t, n) := if_pos rfl
theorem sx_nw2 (h : sx_h) (t n j : Nat) : (sx_nw h t n).2.2.1 (h.1 + 1) j = 0 := if_pos rfl
theorem sx_nw3 (h : sx_h) (t n j : Nat) : (sx_nw h t n).2.2.2 (h.1 + 1) j = none := if_pos rfl
theorem sx_H.push {D : va_G} {dA : Nat → ClassId} {b base : Nat} {s : State} {H H1 : Heap} {locs : List Loc} {t n : Nat} (hH : sx_H D dA b base s H locs h) (hs : base ≤ s.heap.size) (hat : va_at D sx_cl (base + h.1, sx_cell dA b base (sx_nw h t n) (h.1 + 1)) H1) (z : H1.size = H.size + 1) (oq : ∀ q : Nat, q < H.size → H1[q]? = H[q]?) : sx_H D dA b base s H1 locs (sx_nw h t n) := by
  refine ⟨fun i q hq => ?_, by rw [z, hH.2.1]; rfl, ⟨by have := hH.2.2.1; omega, fun q h1 h2 => ?_, hH.2.2.2.2⟩⟩
  · obtain ⟨hi, rfl⟩ := sx_w_get hq
    have hi : i < h.1 + 1 := hi
    by_cases hij : i = h.1
    · subst hij
      exact hat
    · have h2 := hH.1 i _ (sx_w_at (show i < h.1 by omega))
      rw [← sx_cell_congr (h' := sx_nw h t n) (a := i + 1) (if_neg (by omega)) (fun j => if_neg (by omega)) (fun j => if_neg (by omega))] at h2
      exact h2.kept (oq _ (by show base + i < H.size; rw [hH.2.1]; omega))
  · rw [oq q (Nat.lt_of_lt_of_le h1 hH.2.2.1)]
    exact hH.2.2.2.1 q h1 h2
theorem sx_new {idx ci : Nat} {q : vw_C} (hd : decode y.2.1 pc = .ok (.new idx, 3)) (hq : sx_cl[ci]? = some q) (h100 : ci < 100) (hw1 : Cond.classLink y.1.cls idx q.1 ∈ sx_T) (hw2 : Cond.instantiable q.1 q.2.2 ∈ sx_T) (hw3 : Cond.initialized q.1 ∈ sx_T) (hc : cs.1 + 1 ≤ k.2.1 ∧ cs.2 + q.2.2 ≤ k.2.2)
    (kk : sx_V y k L xs (cs.1 + 1, cs.2 + q.2.2) (pc + 3) l (sx_p (h.1 + 1) :: st) (sx_nw h ci q.2.2) post) : sx_V y k L xs cs pc l st h post := by
  intro p lc e R s m args below meth c D dA b base Q hC hR hk H locs ls hH hL
  have hK := hC.2.2.2.2.1
  have hts := hC.1.2.2.2.2
  have hKn := hK.1 ci _ hq
  obtain ⟨c1, c2, c3, c4⟩ := sx_cls ci _ hq
  refine W.newcK hC.1.1 hC.1.2.1 hC.1.2.2.2.1 (hts _ hw1) (hts _ hw2) (hts _ hw3) rfl hd (by omega) (by omega) hKn.2.1 hH.2.1 fun H1 kC hkC e1 z1 o1 => ?_
  refine kk p lc e R s m args below meth c D dA b base Q hC hR hk H1 locs ls (hH.push hC.2.2.2.2.2.2.2.2 ?_ (by rw [z1, hH.2.1]) (fun q' h' => o1 q' (by rw [← hH.2.1]; exact h'))) hL
  have hcell : sx_cell dA b base (sx_nw h ci q.2.2) (h.1 + 1) = .inr (ci, (List.range q.2.2).map (sx_fv b base (sx_nw h ci q.2.2) ci (h.1 + 1))) := by
    simp only [sx_cell, sx_nw1, if_pos h100]
  rw [hcell]
  refine ⟨_, hq, (u_born (sx_fty ci) hts c1 hKn hkC e1 c2).to (fun j hj => ?_)⟩
  rw [c4 j hj]
  simp [vp_V, hj, sx_fv, sx_nw2, sx_nw3, va_rf]
theorem sx_newa {at_ : ArrayType} {t n : Nat} {z : Int} (hd : decode y.2.1 pc = .ok (.newarray at_, 2)) (ht : (t = 0 ∧ at_ = .int) ∨ (t = 1 ∧ at_ = .boolean)) (hw : Cond.arrayClass (newarray.typeOf at_) ∈ sx_T) (hz : z = n) (hn : n ≤ 100000) (hc : cs.1 + 1 ≤ k.2.1 ∧ cs.2 + n ≤ k.2.2)
    (kk : sx_V y k L xs (cs.1 + 1, cs.2 + n) (pc + 2) l (sx_p (h.1 + 1) :: st) (sx_nw h (100 + t) n) post) : sx_V y k L xs cs pc l (.inl z :: st) h post := by
  intro p lc e R s m args below meth c D dA b base Q hC hR hk H locs ls hH hL
  subst hz
  have hK := hC.2.2.2.2.1
  have hts := hC.1.2.2.2.2
  have hr : sx_r (n : Int) := ⟨by omega, by omega⟩
  have hcl : (Int32.ofInt (n : Int)).toNatClampNeg = n := by
    rw [Int32.toNatClampNeg_ofInt_of_le (by have := hr.1; omega) (by have := hr.2; omega)]; rfl
  have hneg : ¬ Int32.ofInt (n : Int) < 0 := fun w => by
    have w : Int32.ofInt (n : Int) < Int32.ofInt 0 := w
    rw [sx_lt hr sx_r0] at w
    omega
  have hb8 : componentBytes (newarray.typeOf at_) ≤ 8 := by rcases ht with ⟨-, rfl⟩ | ⟨-, rfl⟩ <;> decide
  refine va_newaK hC.1.1 hC.1.2.1 (hts _ hw) rfl hd rfl hneg hcl (Nat.le_trans (Nat.mul_le_mul hn hb8) (by decide)) (by omega) (by omega) hH.2.1 fun H1 cA e1 z1 o1 hAr hNm => ?_
  have hcA : cA = dA t := by
    rcases ht with ⟨rfl, rfl⟩ | ⟨rfl, rfl⟩
    · exact Option.some.inj (hNm.symm.trans (hK.2 0 _ (sx_tys_at (by decide))).2)
    · exact Option.some.inj (hNm.symm.trans (hK.2 1 _ (sx_tys_at (by decide))).2)
  subst hcA
  refine kk p lc e R s m args below meth c D dA b base Q hC hR hk H1 locs ls (hH.push hC.2.2.2.2.2.2.2.2 ?_ (by rw [z1, hH.2.1]) (fun q' h' => o1 q' (by rw [← hH.2.1]; exact h'))) hL
  have ht2 : t < 2 := by rcases ht with ⟨rfl, -⟩ | ⟨rfl, -⟩ <;> decide
  have hcell : sx_cell dA b base (sx_nw h (100 + t) n) (h.1 + 1) = .inl (dA t, n, .inl (fun j => Int32.ofInt 0)) := by
    simp only [sx_cell, sx_nw1, sx_nw2, if_neg (show ¬ 100 + t < 100 by omega), if_pos (show 100 + t < 102 by omega), show 100 + t - 100 = t by omega]
  rw [hcell]
  show H1[base + h.1]? = some (vp_cell _ _)
  rw [e1, vp_cell_i]
  rcases ht with ⟨-, rfl⟩ | ⟨-, rfl⟩ <;> rfl
theorem sx_anew {idx t n : Nat} {C : String} {z : Int} (hd : decode y.2.1 pc = .ok (.anewarray idx, 3)) (hty : sx_ty[t + 2]? = some (.object C)) (hw1 : Cond.classLink y.1.cls idx C ∈ sx_T) (hw2 : Cond.arrayOver (.object C) ∈ sx_N) (hz : z = n) (hn : n ≤ 100000) (hc : cs.1 + 1 ≤ k.2.1 ∧ cs.2 + n ≤ k.2.2)
    (kk : sx_V y k L xs (cs.1 + 1, cs.2 + n) (pc + 3) l (sx_p (h.1 + 1) :: st) (sx_nw h (102 + t) n) post) : sx_V y k L xs cs pc l (.inl z :: st) h post := by
  intro p lc e R s m args below meth c D dA b base Q hC hR hk H locs ls hH hL
  subst hz
  have hK := hC.2.2.2.2.1
  have hts := hC.1.2.2.2.2
  have hr : sx_r (n : Int) := ⟨by omega, by omega⟩
  have hcl : (Int32.ofInt (n : Int)).toNatClampNeg = n := by
    rw [Int32.toNatClampNeg_ofInt_of_le (by have := hr.1; omega) (by have := hr.2; omega)]; rfl
  have hneg : ¬ Int32.ofInt (n : Int) < 0 := fun w => by
    have w : Int32.ofInt (n : Int) < Int32.ofInt 0 := w
    rw [sx_lt hr sx_r0] at w
    omega
  have hlt : t + 2 < sx_ty.length := (List.getElem?_eq_some_iff.mp hty).1
  have e1 := sx_tys_at (dA := dA) hlt
  rw [List.getD_eq_getElem?_getD, hty, Option.getD_some] at e1
  obtain ⟨kA', comp', -, -, -, r4⟩ := (hK.2 (t + 2) _ e1).2
  refine W.anew hC.1.1 hC.1.2.1 hC.1.2.2.2.1 (hts _ hw1) (va_AO.use (hC.2.2.2.2.2.1 _ hw2)) rfl hd rfl hneg (by rw [hcl]; omega) (by omega) (by rw [hcl]; omega) fun cA kA comp f1 f2 f3 f4 => ?_
  have hcA : cA = dA (t + 2) := Option.some.inj (f1.symm.trans r4)
  subst hcA
  rw [hcl, hH.2.1]
  refine kk p lc e R s m args below meth c D dA b base Q hC hR hk _ locs ls (hH.push hC.2.2.2.2.2.2.2.2 ?_ (by rw [Array.size_push]) (fun q' h' => by rw [Array.getElem?_push, if_neg (Nat.ne_of_lt h')])) hL
  have hcell : sx_cell dA b base (sx_nw h (102 + t) n) (h.1 + 1) = .inl (dA (t + 2), n, .inr (.inr (.inr (.inr (fun j => none))))) := by
    simp only [sx_cell, sx_nw1, sx_nw3, if_neg (show ¬ 102 + t < 100 by omega), if_neg (show ¬ 102 + t < 102 by omega), show 102 + t - 100 = t + 2 by omega, Option.map_none]
  rw [hcell]
  show (H.push _)[base + h.1]? = some (vp_cell _ _)
  rw [← hH.2.1, Array.getElem?_push_size, vp_cell_q, arrV_new]
  rfl
theorem sx_oinit {idx a : Nat} (hd : decode y.2.1 pc = .ok (.invokespecial idx, 3)) (hw1 : Cond.methodLink y.1.cls idx Lib.objectInit ∈ sx_T) (hw2 : Cond.instanceMethod Lib.objectInit ∈ sx_T) (hw3 : Cond.code Lib.objectInit ⟨#[0xb1]⟩ 1 none ∈ sx_T) (hk1 : 1 ≤ k.1) (hst : (st.map sx_ct).sum ≤ 8) (kk : sx_V y k L xs cs (pc + 3) l st h post) : sx_V y k L xs cs pc l (sx_p a :: st) h post := by
  intro p lc e R s m args below meth c D dA b base Q hC hR hk H locs ls hH hL
  have hts := hC.1.2.2.2.2
  have hroom := lv_room (m := m) (pc := pc) (ls := ls) (rest := st.map (sx_e b base)) (st := st.map (sx_e b base)) (by rw [sx_sum]; exact hst)
  exact W.objInit hC.1.1 hC.1.2.1 hC.1.2.2.2.1 (hts _ hw1) (hts _ hw2) (hts _ hw3) (g := F0 m pc ls _) rfl (by rw [hC.1.2.2.1]; exact hL.1) rfl hd (by omega) (Nat.le_trans (Nat.add_le_add_right hroom 12) (by omega)) (kk p lc e R s m args below meth c D dA b base Q hC hR hk H locs ls hH hL)
theorem sx_mmax {idx : Nat} {x z : Int} (hd : decode y.2.1 pc = .ok (.invokestatic idx, 3)) (hw1 : Cond.methodLink y.1.cls idx Lib.Math.max.name ∈ sx_T) (hw2 : Cond.static Lib.Math.max.name ∈ sx_T) (hw3 : Cond.initialized "java/lang/Math" ∈ sx_T) (hw4 : Cond.code Lib.Math.max.name Lib.Math.max.code 2 (some .int) ∈ sx_T) (hk1 : 1 ≤ k.1) (hst : (st.map sx_ct).sum ≤ 8) (hx : sx_r x) (hz : sx_r z) (hc : cs.1 ≤ k.2.1 ∧ cs.2 ≤ k.2.2)
    (kk : sx_V y k L xs cs (pc + 3) l (.inl (if x < z then z else x) :: st) h post) : sx_V y k L xs cs pc l (.inl z :: .inl x :: st) h post := by
  intro p lc e R s m args below meth c D dA b base Q hC hR hk H locs ls hH hL
  have hts := hC.1.2.2.2.2
  refine va_mmax hC.1.1 hC.1.2.1 (by rw [hC.1.2.2.1]; exact hL.1.symm) hC.1.2.2.2.1 (hts _ hw1) (hts _ hw2) (hts _ hw3) (hts _ hw4) (by omega) (by rw [sx_sum]; omega) (by omega) (by omega) hd ?_
  have h1 := kk p lc e R s m args below meth c D dA b base Q hC hR hk H locs ls hH hL
  rw [show (if Int32.ofInt x < Int32.ofInt z then Int32.ofInt z else Int32.ofInt x) = Int32.ofInt (if x < z then z else x) by simp only [sx_lt hx hz]; split <;> rfl]
  exact h1
theorem sx_mmin {idx : Nat} {x z : Int} (hd : decode y.2.1 pc = .ok (.invokestatic idx, 3)) (hw1 : Cond.methodLink y.1.cls idx Lib.Math.min.name ∈ sx_T) (hw2 : Cond.static Lib.Math.min.name ∈ sx_T) (hw3 : Cond.initialized "java/lang/Math" ∈ sx_T) (hw4 : Cond.code Lib.Math.min.name Lib.Math.min.code 2 (some .int) ∈ sx_T) (hk1 : 1 ≤ k.1) (hst : (st.map sx_ct).sum ≤ 8) (hx : sx_r x) (hz : sx_r z) (hc : cs.1 ≤ k.2.1 ∧ cs.2 ≤ k.2.2)
    (kk : sx_V y k L xs cs (pc + 3) l (.inl (if z < x then z else x) :: st) h post) : sx_V y k L xs cs pc l (.inl z :: .inl x :: st) h post := by
  intro p lc e R s m args below meth c D dA b base Q hC hR hk H locs ls hH hL
  have hts := hC.1.2.2.2.2
  refine va_mmin hC.1.1 hC.1.2.1 (by rw [hC.1.2.2.1]; exact hL.1.symm) hC.1.2.2.2.1 (hts _ hw1) (hts _ hw2) (hts _ hw3) (hts _ hw4) (by omega) (by rw [sx_sum]; omega) (by omega) (by omega) hd ?_
  have h1 := kk p lc e R s m args below meth c D dA b base Q hC hR hk H locs ls hH hL
  rw [show (if Int32.ofInt z < Int32.ofInt x then Int32.ofInt z else Int32.ofInt x) = Int32.ofInt (if z < x then z else x) by simp only [sx_lt hz hx]; split <;> rfl]
  exact h1
end SXI
end
section
theorem sx_N_isN {w : Cond} (hw : w ∈ sx_N) : sx_isN w = true := (List.mem_filter.mp hw).2
theorem sx_N_same {w : Cond} (hw : w ∈ sx_N) {u U : State} (e : u.vm = U.vm) (hz : va_Nw w u) : va_Nw w U := by
  have h := sx_N_isN hw
  cases w with
  | fieldLinkNest a i b n d e2 => exact va_Nw.same rfl e hz
  | methodLinkNest a i x e2 => exact va_Nw.same rfl e hz
  | arrayOver t =>
    cases t with
    | object C => exact va_AO.moved (e ▸ Vm.Alike.refl u.vm) hz
    | _ => simp [sx_isN] at h
  | _ => simp [sx_isN] at h
theorem sx_N_warm {w : Cond} (hw : w ∈ sx_N) {s U : State} (hW : s.WarmedH U.vm) (hz : va_Nw w s) : va_Nw w U := by
  have h := sx_N_isN hw
  cases w with
  | fieldLinkNest a i b n d e => exact va_Nw.warmF hW hz
  | methodLinkNest a i x e => exact va_Nw.warmM hW hz
  | arrayOver t =>
    cases t with
    | object C => exact va_AO.moved hW.alike hz
    | _ => simp [sx_isN] at h
  | _ => simp [sx_isN] at h
theorem sx_good {y : sx_Y} (hc : Cond.code y.1 y.2.1 y.2.2.1 y.2.2.2 ∈ sx_T) : GoodIn sx_T (sx_ws y) := by
  intro w hw
  have hm : w ∈ sx_T := by
    rcases List.mem_cons.mp hw with rfl | h
    · exact hc
    · exact h
  exact ⟨hm, good_of_word (List.mem_filter.mp hm).2⟩
theorem sx_blind (av : List Value) (D : va_G) (dA : Nat → ClassId) (b base L : Nat) (xs : Nat → Int32) (h : sx_h) : FrameBlind (va_Pc av (sx_B D dA b base L xs h)) := by
  rintro a U g mk ⟨hv, hP, hsz, hK, hN, hX, hb⟩
  exact ⟨hv, hP, hsz, va_K.moved (u := U) (U := U.calling g mk a) (Vm.Alike.refl U.vm) hK, fun w hw => sx_N_same hw (u := U) (U := U.calling g mk a) rfl (hN w hw), va_X.moved (u := U) (U := U.calling g mk a) (Vm.Alike.refl U.vm) hX, hb⟩
/-- what a call of y' with n arguments beside its object needs of the tables -/
def sx_cd (y' : sx_Y) (n : Nat) : Prop := Cond.code y'.1 y'.2.1 y'.2.2.1 y'.2.2.2 ∈ sx_T ∧ Cond.initialized y'.1.cls ∈ sx_T ∧ (y'.1.cls ≠ "java/lang/invoke/MethodHandle" ∧ y'.1.cls ≠ "java/lang/invoke/VarHandle" ∧ (parseMethodDescriptor y'.1.desc).map (fun d => d.parameters.length) = some n) ∧ y'.2.2.1 ≤ 45
def sx_lk (own : String) (idx : Nat) (y' : sx_Y) : Prop := Cond.methodLink own idx y'.1 ∈ sx_T ∨ ∃ host, Cond.methodLinkNest own idx y'.1 host ∈ sx_N
section SXK
variable {y : sx_Y} {k : Nat × Nat × Nat} {L : Nat} {xs : Nat → Int32} {cs : Nat × Nat} {pc : Nat} {l : List (Option sx_v)} {st stk : List sx_v} {h : sx_h} {post post' : Option sx_v → sx_h → Prop}
theorem sx_pre {p : Program} {s : State} {m : MethodId} {args : Array Value} {meth : Method} {c : Code} {D : va_G} {dA : Nat → ClassId} {b base : Nat} {H : Heap} {locs : List Loc} (av : List sx_v)
    (hC : sx_C y p s m args meth c D dA b base L xs) (hH : sx_H D dA b base s H locs h) : ∀ U : State, U.heap = H → s.WarmedH U.vm → va_Pc (av.map (sx_e b base)) (sx_B D dA b base L xs h) (av.map (sx_e b base)).toArray U := by
  intro U hU hW
  obtain ⟨-, -, -, -, hK, hN, hX, hbb, hbs⟩ := hC
  refine ⟨rfl, by rw [hU]; exact hH.1, by rw [hU]; exact hH.2.1, va_K.moved hW.alike hK, fun w hw => sx_N_warm hw hW (hN w hw), ?_, hbb⟩
  rw [hU]
  exact va_X.moved hW.alike (hX.kept (hH.2.2.2.1 b (by omega) (by omega)))
/-- behind a call -/
theorem sx_after {p : Program} {lc : Launch} {e : Env} {R : Room} {s : State} {m : MethodId} {args : Array Value} {below : List Frame} {meth : Method} {c : Code} {D : va_G} {dA : Nat → ClassId} {b base : Nat} {Q : State → Prop} {H : Heap} {locs : List Loc} {ls : Array Slot} {rest st0 : List Value} {cells slots mc ms : Nat} {a : Array Value}
    (hr : va_Run p lc e R s m args below meth c H locs cells slots mc ms (F0 m pc ls st0) rest (sx_Q D dA b base post' a) (fun q => base ≤ q)) (hH : sx_H D dA b base s H locs h)
    (kk : ∀ (v : Option sx_v) (h' : sx_h) (H1 : Heap) (locs1 : List Loc), post' v h' → sx_H D dA b base s H1 locs1 h' → W p lc e R s m args below meth c H1 locs1 (cells + mc) (slots + ms) Q (F0 m (pc + 3) ls (v.toList.map (sx_e b base) ++ rest))) : W p lc e R s m args below meth c H locs cells slots Q (F0 m pc ls st0) := by
  intro T hT X
  obtain ⟨v, st₀, t, T', L', h0, X', hL, e1, e2, ⟨u, h', hv, hp, hP, hsz, hF1, hF2⟩, st⟩ := hr T hT X
  have hv : v = u.map (sx_e b base) := Outcome.returned.inj hv
  subst hv
  rw [h0] at hF1 hF2
  have hS := hH.2.2
  obtain ⟨t2, a1, b1⟩ := kk u h' T'.heap (locs ++ L') hp ⟨by rw [e1]; exact hP, by rw [e1]; exact hsz, ⟨Nat.le_trans hS.1 (by rw [e1]; exact hF1), fun q h1 h2 => by rw [e1, hF2 q (Nat.lt_of_lt_of_le h1 hS.1) h2]; exact hS.2.1 q h1 h2, fun q hq => by
    rcases List.mem_append.mp hq with h | h
    · exact hS.2.2 q h
    · exact hL q h⟩⟩ T' rfl X'
  refine ⟨t2, st t2 ?_, b1⟩
  cases u <;> exact a1
theorem sx_callV {y' : sx_Y} {k' : Nat × Nat × Nat} {av : List sx_v} {a idx ci n nn : Nat} {q : vw_C} (hM : sx_R y' k' L xs (sx_p a :: av) h post') (hd : decode y.2.1 pc = .ok (.invokevirtual idx, 3)) (hcd : sx_cd y' nn) (hlk : sx_lk y.1.cls idx y') (hw1 : Cond.instanceMethod y'.1 ∈ sx_T) (hw2 : Cond.selects y'.1.cls y'.1 y'.1 ∈ sx_T)
    (ho : sx_o h a ci n) (hq : sx_cl[ci]? = some q) (hqc : q.1 = y'.1.cls) (h100 : ci < 100) (hs : stk = av.reverse ++ sx_p a :: st) (hn : av.length = nn) (hst : (st.map sx_ct).sum ≤ 8) (hk' : k'.1 + 1 ≤ k.1 ∧ cs.1 + k'.2.1 ≤ k.2.1 ∧ cs.2 + k'.2.2 ≤ k.2.2)
    (kk : ∀ v h', post' v h' → sx_V y k L xs (cs.1 + k'.2.1, cs.2 + k'.2.2) (pc + 3) l (v.toList ++ st) h' post) : sx_V y k L xs cs pc l stk h post := by
  intro p lc e R s m args below meth c D dA b base Q hC hR hk H locs ls hH hL
  subst hs
  obtain ⟨hc1, hc2, hc3, hc4⟩ := hcd
  have hts := hC.1.2.2.2.2
  have hroom : 8 + (y'.2.2.1 + 11) + (sx_rm k').locals ≤ R.locals := by
    show 8 + (y'.2.2.1 + 11) + 64 * k'.1 ≤ R.locals
    omega
  have hrecv := va_recv hC.2.2.2.2.1 hH.1 hq (ho.obj (dA := dA) (b := b) (base := base) h100)
  rw [hqc] at hrecv
  have hp : PreV s H y'.1.cls (sx_ad b base a) (va_Pc ((sx_p a :: av).map (sx_e b base)) (sx_B D dA b base L xs h)) (av.map (sx_e b base)) := ⟨sx_blind _ _ _ _ _ _ _ _, hrecv, sx_pre (sx_p a :: av) hC hH⟩
  have hstack : ((av.reverse ++ sx_p a :: st).map (sx_e b base)) = (av.map (sx_e b base)).reverse ++ .ref (sx_ad b base a) :: st.map (sx_e b base) := by
    rw [List.map_append, List.map_reverse]; rfl
  have fin : va_Run p lc e R s m args below meth c H locs cs.1 cs.2 k'.2.1 k'.2.2 (F0 m pc ls ((av.reverse ++ sx_p a :: st).map (sx_e b base))) (st.map (sx_e b base)) (sx_Q D dA b base post' (Value.ref (sx_ad b base a) :: av.map (sx_e b base)).toArray) (fun q => base ≤ q) → W p lc e R s m args below meth c H locs cs.1 cs.2 Q (F0 m pc ls ((av.reverse ++ sx_p a :: st).map (sx_e b base))) := by
    intro hrun
    refine sx_after hrun hH (fun v h' H1 locs1 hpv hH1 => ?_)
    have h1 := kk v h' hpv p lc e R s m args below meth c D dA b base Q hC hR hk H1 locs1 ls hH1 hL
    rw [List.map_append] at h1
    exact h1
  rcases hlk with hl | ⟨host, hl⟩
  · exact fin (va_runV (As := av.map (sx_e b base)) (n := nn) hC.1 (hM lc D dA b base) ⟨callB_of nn hts (sx_good hc1) rfl rfl rfl (hts _ hc2) (hts _ hl) hc3 ⟨by show k'.1 + 1 ≤ R.frames; omega, hroom⟩, hts _ hw1, hts _ hw2⟩ hp rfl (by rw [List.length_map]; exact hn) hL.1 hstack (lv_room (by rw [sx_sum]; exact hst)) hd ⟨by omega, by omega⟩)
  · exact fin (va_runVN (As := av.map (sx_e b base)) (n := nn) (host := host) hC.1 (hM lc D dA b base) ⟨va_cnB nn hts (sx_good hc1) rfl rfl rfl (hC.2.2.2.2.2.1 _ hl) (hts _ hc2) hc3 ⟨by show k'.1 + 1 ≤ R.frames; omega, hroom⟩, hts _ hw1, hts _ hw2⟩ hp rfl (by rw [List.length_map]; exact hn) hL.1 hstack (lv_room (by rw [sx_sum]; exact hst)) hd ⟨by omega, by omega⟩)
theorem sx_callS {y' : sx_Y} {k' : Nat × Nat × Nat} {av : List sx_v} {idx nn : Nat} (hM : sx_R y' k' L xs av h post') (hd : decode y.2.1 pc = .ok (.invokestatic idx, 3)) (hcd : sx_cd y' nn) (hlk : sx_lk y.1.cls idx y') (hw1 : Cond.static y'.1 ∈ sx_T)
    (hs : stk = av.reverse ++ st) (hn : av.length = nn) (hst : (st.map sx_ct).sum ≤ 8) (hk' : k'.1 + 1 ≤ k.1 ∧ cs.1 + k'.2.1 ≤ k.2.1 ∧ cs.2 + k'.2.2 ≤ k.2.2)
    (kk : ∀ v h', post' v h' → sx_V y k L xs (cs.1 + k'.2.1, cs.2 + k'.2.2) (pc + 3) l (v.toList ++ st) h' post) : sx_V y k L xs cs pc l stk h post := by
  intro p lc e R s m args below meth c D dA b base Q hC hR hk H locs ls hH hL
  subst hs
  obtain ⟨hc1, hc2, hc3, hc4⟩ := hcd
  have hts := hC.1.2.2.2.2
  have hroom : 8 + (y'.2.2.1 + 11) + (sx_rm k').locals ≤ R.locals := by
    show 8 + (y'.2.2.1 + 11) + 64 * k'.1 ≤ R.locals
    omega
  have hp : PreS s H (va_Pc (av.map (sx_e b base)) (sx_B D dA b base L xs h)) (av.map (sx_e b base)) := ⟨sx_blind _ _ _ _ _ _ _ _, sx_pre av hC hH⟩
  have hstack : ((av.reverse ++ st).map (sx_e b base)) = (av.map (sx_e b base)).reverse ++ st.map (sx_e b base) := by
    rw [List.map_append, List.map_reverse]
  have fin : va_Run p lc e R s m args below meth c H locs cs.1 cs.2 k'.2.1 k'.2.2 (F0 m pc ls ((av.reverse ++ st).map (sx_e b base))) (st.map (sx_e b base)) (sx_Q D dA b base post' (av.map (sx_e b base)).toArray) (fun q => base ≤ q) → W p lc e R s m args below meth c H locs cs.1 cs.2 Q (F0 m pc ls ((av.reverse ++ st).map (sx_e b base))) := by
    intro hrun
    refine sx_after hrun hH (fun v h' H1 locs1 hpv hH1 => ?_)
    have h1 := kk v h' hpv p lc e R s m args below meth c D dA b base Q hC hR hk H1 locs1 ls hH1 hL
    rw [List.map_append] at h1
    exact h1
  rcases hlk with hl | ⟨host, hl⟩
  · exact fin (va_runS (As := av.map (sx_e b base)) (n := nn) hC.1 (hM lc D dA b base) ⟨callB_of nn hts (sx_good hc1) rfl rfl rfl (hts _ hc2) (hts _ hl) hc3 ⟨by show k'.1 + 1 ≤ R.frames; omega, hroom⟩, hts _ hw1⟩ hp rfl (by rw [List.length_map]; exact hn) hL.1 hstack (lv_room (by rw [sx_sum]; exact hst)) hd ⟨by omega, by omega⟩)
  · exact fin (va_runSN (As := av.map (sx_e b base)) (n := nn) (host := host) hC.1 (hM lc D dA b base) ⟨va_cnB nn hts (sx_good hc1) rfl rfl rfl (hC.2.2.2.2.2.1 _ hl) (hts _ hc2) hc3 ⟨by show k'.1 + 1 ≤ R.frames; omega, hroom⟩, hts _ hw1, trivial⟩ hp rfl (by rw [List.length_map]; exact hn) hL.1 hstack (lv_room (by rw [sx_sum]; exact hst)) hd ⟨by omega, by omega⟩)
theorem sx_callI {y' : sx_Y} {k' : Nat × Nat × Nat} {av : List sx_v} {a idx nn : Nat} (hM : sx_R y' k' L xs (sx_p a :: av) h post') (hd : decode y.2.1 pc = .ok (.invokespecial idx, 3)) (hcd : sx_cd y' nn) (hlk : sx_lk y.1.cls idx y') (hw1 : Cond.instanceMethod y'.1 ∈ sx_T) (hy1 : y'.1.name = "<init>") (hyr : y'.2.2.2 = none)
    (hs : stk = av.reverse ++ sx_p a :: st) (hn : av.length = nn) (hst : (st.map sx_ct).sum ≤ 8) (hk' : k'.1 + 1 ≤ k.1 ∧ cs.1 + k'.2.1 ≤ k.2.1 ∧ cs.2 + k'.2.2 ≤ k.2.2)
    (kk : ∀ v h', post' v h' → sx_V y k L xs (cs.1 + k'.2.1, cs.2 + k'.2.2) (pc + 3) l (v.toList ++ st) h' post) : sx_V y k L xs cs pc l stk h post := by
  intro p lc e R s m args below meth c D dA b base Q hC hR hk H locs ls hH hL
  subst hs
  obtain ⟨hc1, hc2, hc3, hc4⟩ := hcd
  have hts := hC.1.2.2.2.2
  have hroom : 8 + (y'.2.2.1 + 11) + (sx_rm k').locals ≤ R.locals := by
    show 8 + (y'.2.2.1 + 11) + 64 * k'.1 ≤ R.locals
    omega
  have hp : PreS s H (va_Pc ((sx_p a :: av).map (sx_e b base)) (sx_B D dA b base L xs h)) (.ref (sx_ad b base a) :: av.map (sx_e b base)) := ⟨sx_blind _ _ _ _ _ _ _ _, sx_pre (sx_p a :: av) hC hH⟩
  have hstack : ((av.reverse ++ sx_p a :: st).map (sx_e b base)) = (av.map (sx_e b base)).reverse ++ .ref (sx_ad b base a) :: st.map (sx_e b base) := by
    rw [List.map_append, List.map_reverse]; rfl
  have fin : va_Run p lc e R s m args below meth c H locs cs.1 cs.2 k'.2.1 k'.2.2 (F0 m pc ls ((av.reverse ++ sx_p a :: st).map (sx_e b base))) (st.map (sx_e b base)) (sx_Q D dA b base post' (Value.ref (sx_ad b base a) :: av.map (sx_e b base)).toArray) (fun q => base ≤ q) → W p lc e R s m args below meth c H locs cs.1 cs.2 Q (F0 m pc ls ((av.reverse ++ sx_p a :: st).map (sx_e b base))) := by
    intro hrun
    refine sx_after hrun hH (fun v h' H1 locs1 hpv hH1 => ?_)
    have h1 := kk v h' hpv p lc e R s m args below meth c D dA b base Q hC hR hk H1 locs1 ls hH1 hL
    rw [List.map_append] at h1
    exact h1
  rw [hyr] at hc1
  have hg : GoodIn sx_T (sx_ws y') := sx_good (by rw [hyr]; exact hc1)
  rcases hlk with hl | ⟨host, hl⟩
  · exact fin (va_runI (As := av.map (sx_e b base)) (n := nn) hC.1 (hM lc D dA b base) ⟨callB_of nn hts hg (by rw [sx_ws, hyr]) rfl rfl (hts _ hc2) (hts _ hl) hc3 ⟨by show k'.1 + 1 ≤ R.frames; omega, hroom⟩, hy1, hts _ hw1⟩ hp rfl (by rw [List.length_map]; exact hn) hL.1 hstack (lv_room (by rw [sx_sum]; exact hst)) hd ⟨by omega, by omega⟩)
  · exact fin (va_runIN (As := av.map (sx_e b base)) (n := nn) (host := host) hC.1 (hM lc D dA b base) ⟨va_cnB nn hts hg (by rw [sx_ws, hyr]) rfl rfl (hC.2.2.2.2.2.1 _ hl) (hts _ hc2) hc3 ⟨by show k'.1 + 1 ≤ R.frames; omega, hroom⟩, hy1, hts _ hw1⟩ hp rfl (by rw [List.length_map]; exact hn) hL.1 hstack (lv_room (by rw [sx_sum]; exact hst)) hd ⟨by omega, by omega⟩)
/-- weaker ends -/
theorem sx_V.mono {post2 : Option sx_v → sx_h → Prop} (hv : sx_V y k L xs cs pc l st h post) (hp : ∀ v h', post v h' → post2 v h') : sx_V y k L xs cs pc l st h post2 := by
  intro p lc e R s m args below meth c D dA b base Q hC hR hk H locs ls hH hL
  exact hv p lc e R s m args below meth c D dA b base Q hC hR (fun pcR lsR H locs v h' h1 h2 h3 => hk pcR lsR H locs v h' (hp v h' h1) h2 h3) H locs ls hH hL
end SXK
end
section
theorem fl_T_10 : sx_fl "PlaceTimePlans" 10 8 0 := ⟨_, rfl, by decide, tw_299⟩
theorem fl_T_21 : sx_fl "PlaceTimePlans" 21 8 1 := ⟨_, rfl, by decide, tw_300⟩
theorem fl_T_28 : sx_fl "PlaceTimePlans" 28 8 2 := ⟨_, rfl, by decide, tw_301⟩
theorem fl_T_37 : sx_fl "PlaceTimePlans" 37 8 3 := ⟨_, rfl, by decide, tw_302⟩
theorem fl_T_44 : sx_fl "PlaceTimePlans" 44 8 4 := ⟨_, rfl, by decide, tw_303⟩
theorem fl_T_53 : sx_fl "PlaceTimePlans" 53 8 5 := ⟨_, rfl, by decide, tw_304⟩
theorem fl_T_57 : sx_fl "PlaceTimePlans" 57 8 6 := ⟨_, rfl, by decide, tw_305⟩
theorem fl_T_65 : sx_fl "PlaceTimePlans" 65 1 8 := ⟨_, rfl, by decide, tw_134⟩
theorem fl_T_80 : sx_fl "PlaceTimePlans" 80 1 9 := ⟨_, rfl, by decide, tw_138⟩
theorem fl_T_94 : sx_fl "PlaceTimePlans" 94 1 2 := ⟨_, rfl, by decide, tw_122⟩
theorem fl_T_98 : sx_fl "PlaceTimePlans" 98 7 7 := ⟨_, rfl, by decide, tw_80⟩
theorem fl_T_103 : sx_fl "PlaceTimePlans" 103 7 8 := ⟨_, rfl, by decide, tw_83⟩
theorem fl_T_109 : sx_fl "PlaceTimePlans" 109 1 10 := ⟨_, rfl, by decide, tw_141⟩
theorem fl_T_115 : sx_fl "PlaceTimePlans" 115 1 0 := ⟨_, rfl, by decide, tw_116⟩
theorem fl_T_128 : sx_fl "PlaceTimePlans" 128 1 4 := ⟨_, rfl, by decide, tw_125⟩
theorem fl_T_135 : sx_fl "PlaceTimePlans" 135 7 4 := ⟨_, rfl, by decide, tw_70⟩
theorem fl_T_146 : sx_fl "PlaceTimePlans" 146 8 8 := ⟨_, rfl, by decide, tw_307⟩
theorem fl_T_149 : sx_fl "PlaceTimePlans" 149 8 9 := ⟨_, rfl, by decide, tw_308⟩
theorem fl_T_153 : sx_fl "PlaceTimePlans" 153 8 10 := ⟨_, rfl, by decide, tw_309⟩
theorem fl_T_159 : sx_fl "PlaceTimePlans" 159 2 0 := ⟨_, rfl, by decide, tw_205⟩
theorem fl_T_166 : sx_fl "PlaceTimePlans" 166 2 1 := ⟨_, rfl, by decide, tw_209⟩
theorem fl_T_186 : sx_fl "PlaceTimePlans" 186 8 7 := ⟨_, rfl, by decide, tw_306⟩
theorem fl_T_189 : sx_fl "PlaceTimePlans" 189 7 1 := ⟨_, rfl, by decide, tw_63⟩
theorem fl_T_203 : sx_fl "PlaceTimePlans" 203 7 9 := ⟨_, rfl, by decide, tw_85⟩
theorem fl_T_206 : sx_fl "PlaceTimePlans" 206 7 10 := ⟨_, rfl, by decide, tw_88⟩
theorem fl_T_213 : sx_fl "PlaceTimePlans" 213 4 14 := ⟨_, rfl, by decide, tw_246⟩
theorem fl_T_230 : sx_fl "PlaceTimePlans" 230 0 3 := ⟨_, rfl, by decide, tw_40⟩
theorem fl_T_233 : sx_fl "PlaceTimePlans" 233 4 10 := ⟨_, rfl, by decide, tw_238⟩
theorem fl_T_236 : sx_fl "PlaceTimePlans" 236 4 11 := ⟨_, rfl, by decide, tw_240⟩
theorem fl_T_239 : sx_fl "PlaceTimePlans" 239 4 12 := ⟨_, rfl, by decide, tw_242⟩
theorem fl_T_242 : sx_fl "PlaceTimePlans" 242 4 4 := ⟨_, rfl, by decide, tw_231⟩
theorem fl_T_251 : sx_fl "PlaceTimePlans" 251 4 13 := ⟨_, rfl, by decide, tw_244⟩
theorem fl_D_9 : sx_fl "PlaceTimePlans$Days" 9 0 0 := ⟨_, rfl, by decide, tw_36⟩
theorem fl_D_15 : sx_fl "PlaceTimePlans$Days" 15 0 1 := ⟨_, rfl, by decide, tw_37⟩
theorem fl_D_19 : sx_fl "PlaceTimePlans$Days" 19 0 2 := ⟨_, rfl, by decide, tw_38⟩
theorem fl_D_29 : sx_fl "PlaceTimePlans$Days" 29 0 3 := ⟨_, rfl, by decide, tw_39⟩
theorem fl_L_12 : sx_fl "PlaceTimePlans$Line" 12 1 0 := ⟨_, rfl, by decide, tw_112⟩
theorem fl_L_18 : sx_fl "PlaceTimePlans$Line" 18 1 1 := ⟨_, rfl, by decide, tw_117⟩
theorem fl_L_24 : sx_fl "PlaceTimePlans$Line" 24 1 2 := ⟨_, rfl, by decide, tw_118⟩
theorem fl_L_28 : sx_fl "PlaceTimePlans$Line" 28 1 3 := ⟨_, rfl, by decide, tw_123⟩
theorem fl_L_31 : sx_fl "PlaceTimePlans$Line" 31 1 4 := ⟨_, rfl, by decide, tw_124⟩
theorem fl_L_34 : sx_fl "PlaceTimePlans$Line" 34 1 5 := ⟨_, rfl, by decide, tw_127⟩
theorem fl_L_37 : sx_fl "PlaceTimePlans$Line" 37 1 6 := ⟨_, rfl, by decide, tw_129⟩
theorem fl_L_40 : sx_fl "PlaceTimePlans$Line" 40 1 7 := ⟨_, rfl, by decide, tw_131⟩
theorem fl_L_44 : sx_fl "PlaceTimePlans$Line" 44 1 8 := ⟨_, rfl, by decide, tw_133⟩
theorem fl_L_48 : sx_fl "PlaceTimePlans$Line" 48 1 9 := ⟨_, rfl, by decide, tw_135⟩
theorem fl_L_55 : sx_fl "PlaceTimePlans$Line" 55 7 0 := ⟨_, rfl, by decide, tw_59⟩
theorem fl_L_58 : sx_fl "PlaceTimePlans$Line" 58 7 1 := ⟨_, rfl, by decide, tw_61⟩
theorem fl_L_61 : sx_fl "PlaceTimePlans$Line" 61 7 2 := ⟨_, rfl, by decide, tw_65⟩
theorem fl_L_64 : sx_fl "PlaceTimePlans$Line" 64 7 3 := ⟨_, rfl, by decide, tw_67⟩
theorem fl_L_67 : sx_fl "PlaceTimePlans$Line" 67 7 6 := ⟨_, rfl, by decide, tw_77⟩
theorem fl_L_75 : sx_fl "PlaceTimePlans$Line" 75 1 10 := ⟨_, rfl, by decide, tw_139⟩
theorem fl_L_91 : sx_fl "PlaceTimePlans$Line" 91 7 5 := ⟨_, rfl, by decide, tw_75⟩
theorem fl_L_97 : sx_fl "PlaceTimePlans$Line" 97 2 1 := ⟨_, rfl, by decide, tw_208⟩
theorem fl_L_109 : sx_fl "PlaceTimePlans$Line" 109 2 0 := ⟨_, rfl, by decide, tw_204⟩
theorem fl_L_112 : sx_fl "PlaceTimePlans$Line" 112 7 4 := ⟨_, rfl, by decide, tw_71⟩
theorem fl_L_118 : sx_fl "PlaceTimePlans$Line" 118 7 10 := ⟨_, rfl, by decide, tw_87⟩
theorem fl_P_9 : sx_fl "PlaceTimePlans$Placing" 9 2 0 := ⟨_, rfl, by decide, tw_200⟩
theorem fl_P_15 : sx_fl "PlaceTimePlans$Placing" 15 2 1 := ⟨_, rfl, by decide, tw_206⟩
theorem fl_R_12 : sx_fl "PlaceTimePlans$Rules" 12 3 2 := ⟨_, rfl, by decide, tw_186⟩
theorem fl_R_18 : sx_fl "PlaceTimePlans$Rules" 18 3 0 := ⟨_, rfl, by decide, tw_184⟩
theorem fl_R_22 : sx_fl "PlaceTimePlans$Rules" 22 1 0 := ⟨_, rfl, by decide, tw_113⟩
theorem fl_R_28 : sx_fl "PlaceTimePlans$Rules" 28 3 1 := ⟨_, rfl, by decide, tw_185⟩
theorem fl_R_37 : sx_fl "PlaceTimePlans$Rules" 37 1 2 := ⟨_, rfl, by decide, tw_119⟩
theorem fl_R_41 : sx_fl "PlaceTimePlans$Rules" 41 7 6 := ⟨_, rfl, by decide, tw_76⟩
theorem fl_R_57 : sx_fl "PlaceTimePlans$Rules" 57 7 8 := ⟨_, rfl, by decide, tw_82⟩
theorem fl_R_61 : sx_fl "PlaceTimePlans$Rules" 61 7 5 := ⟨_, rfl, by decide, tw_74⟩
theorem fl_R_64 : sx_fl "PlaceTimePlans$Rules" 64 7 7 := ⟨_, rfl, by decide, tw_79⟩
theorem fl_R_77 : sx_fl "PlaceTimePlans$Rules" 77 7 9 := ⟨_, rfl, by decide, tw_84⟩
theorem fl_R_84 : sx_fl "PlaceTimePlans$Rules" 84 1 10 := ⟨_, rfl, by decide, tw_140⟩
theorem fl_R_87 : sx_fl "PlaceTimePlans$Rules" 87 1 5 := ⟨_, rfl, by decide, tw_128⟩
theorem fl_R_91 : sx_fl "PlaceTimePlans$Rules" 91 1 6 := ⟨_, rfl, by decide, tw_130⟩
theorem fl_R_97 : sx_fl "PlaceTimePlans$Rules" 97 1 7 := ⟨_, rfl, by decide, tw_132⟩
theorem fl_R_107 : sx_fl "PlaceTimePlans$Rules" 107 7 4 := ⟨_, rfl, by decide, tw_69⟩
theorem fl_R_137 : sx_fl "PlaceTimePlans$Rules" 137 2 0 := ⟨_, rfl, by decide, tw_203⟩
theorem fl_R_142 : sx_fl "PlaceTimePlans$Rules" 142 7 0 := ⟨_, rfl, by decide, tw_60⟩
theorem fl_R_145 : sx_fl "PlaceTimePlans$Rules" 145 7 1 := ⟨_, rfl, by decide, tw_62⟩
theorem fl_R_152 : sx_fl "PlaceTimePlans$Rules" 152 1 4 := ⟨_, rfl, by decide, tw_126⟩
theorem fl_S_12 : sx_fl "PlaceTimePlans$Search" 12 4 3 := ⟨_, rfl, by decide, tw_229⟩
theorem fl_S_18 : sx_fl "PlaceTimePlans$Search" 18 4 4 := ⟨_, rfl, by decide, tw_230⟩
theorem fl_S_23 : sx_fl "PlaceTimePlans$Search" 23 4 5 := ⟨_, rfl, by decide, tw_232⟩
theorem fl_S_27 : sx_fl "PlaceTimePlans$Search" 27 4 6 := ⟨_, rfl, by decide, tw_233⟩
theorem fl_S_31 : sx_fl "PlaceTimePlans$Search" 31 4 7 := ⟨_, rfl, by decide, tw_234⟩
theorem fl_S_34 : sx_fl "PlaceTimePlans$Search" 34 4 0 := ⟨_, rfl, by decide, tw_226⟩
theorem fl_S_38 : sx_fl "PlaceTimePlans$Search" 38 4 1 := ⟨_, rfl, by decide, tw_227⟩
theorem fl_S_42 : sx_fl "PlaceTimePlans$Search" 42 4 2 := ⟨_, rfl, by decide, tw_228⟩
theorem fl_S_46 : sx_fl "PlaceTimePlans$Search" 46 4 8 := ⟨_, rfl, by decide, tw_235⟩
theorem fl_S_50 : sx_fl "PlaceTimePlans$Search" 50 4 9 := ⟨_, rfl, by decide, tw_236⟩
theorem fl_S_54 : sx_fl "PlaceTimePlans$Search" 54 4 10 := ⟨_, rfl, by decide, tw_237⟩
theorem fl_S_57 : sx_fl "PlaceTimePlans$Search" 57 4 11 := ⟨_, rfl, by decide, tw_239⟩
theorem fl_S_60 : sx_fl "PlaceTimePlans$Search" 60 4 12 := ⟨_, rfl, by decide, tw_241⟩
theorem fl_S_67 : sx_fl "PlaceTimePlans$Search" 67 1 9 := ⟨_, rfl, by decide, tw_136⟩
theorem fl_S_72 : sx_fl "PlaceTimePlans$Search" 72 1 2 := ⟨_, rfl, by decide, tw_120⟩
theorem fl_S_76 : sx_fl "PlaceTimePlans$Search" 76 7 10 := ⟨_, rfl, by decide, tw_86⟩
theorem fl_S_81 : sx_fl "PlaceTimePlans$Search" 81 2 0 := ⟨_, rfl, by decide, tw_201⟩
theorem fl_S_84 : sx_fl "PlaceTimePlans$Search" 84 2 1 := ⟨_, rfl, by decide, tw_207⟩
theorem fl_S_87 : sx_fl "PlaceTimePlans$Search" 87 7 6 := ⟨_, rfl, by decide, tw_78⟩
theorem fl_S_129 : sx_fl "PlaceTimePlans$Search" 129 4 14 := ⟨_, rfl, by decide, tw_245⟩
theorem fl_S_132 : sx_fl "PlaceTimePlans$Search" 132 4 13 := ⟨_, rfl, by decide, tw_243⟩
theorem fl_S_135 : sx_fl "PlaceTimePlans$Search" 135 1 0 := ⟨_, rfl, by decide, tw_115⟩
theorem fl_H_9 : sx_fl "PlaceTimePlans$Weather" 9 5 2 := ⟨_, rfl, by decide, tw_288⟩
theorem fl_H_15 : sx_fl "PlaceTimePlans$Weather" 15 5 0 := ⟨_, rfl, by decide, tw_286⟩
theorem fl_H_19 : sx_fl "PlaceTimePlans$Weather" 19 5 1 := ⟨_, rfl, by decide, tw_287⟩
theorem fl_H_23 : sx_fl "PlaceTimePlans$Weather" 23 5 3 := ⟨_, rfl, by decide, tw_289⟩
theorem fl_H_27 : sx_fl "PlaceTimePlans$Weather" 27 1 9 := ⟨_, rfl, by decide, tw_137⟩
theorem fl_H_32 : sx_fl "PlaceTimePlans$Weather" 32 1 2 := ⟨_, rfl, by decide, tw_121⟩
theorem fl_H_36 : sx_fl "PlaceTimePlans$Weather" 36 7 5 := ⟨_, rfl, by decide, tw_73⟩
theorem fl_H_45 : sx_fl "PlaceTimePlans$Weather" 45 1 0 := ⟨_, rfl, by decide, tw_114⟩
theorem fl_H_66 : sx_fl "PlaceTimePlans$Weather" 66 2 0 := ⟨_, rfl, by decide, tw_202⟩
theorem fl_W_7 : sx_fl "PlaceTimePlans$Window" 7 6 0 := ⟨_, rfl, by decide, tw_177⟩
theorem fl_W_13 : sx_fl "PlaceTimePlans$Window" 13 6 1 := ⟨_, rfl, by decide, tw_178⟩
theorem fl_K_9 : sx_fl "PlaceTimePlans$Work" 9 7 4 := ⟨_, rfl, by decide, tw_68⟩
theorem fl_K_15 : sx_fl "PlaceTimePlans$Work" 15 7 8 := ⟨_, rfl, by decide, tw_81⟩
theorem fl_K_27 : sx_fl "PlaceTimePlans$Work" 27 7 3 := ⟨_, rfl, by decide, tw_66⟩
theorem fl_K_30 : sx_fl "PlaceTimePlans$Work" 30 7 2 := ⟨_, rfl, by decide, tw_64⟩
theorem fl_K_33 : sx_fl "PlaceTimePlans$Work" 33 7 5 := ⟨_, rfl, by decide, tw_72⟩
theorem fl_M_7 : sx_fl "PlaceTimePlansModel" 7 9 1 := ⟨_, rfl, by decide, tw_695⟩
theorem fl_M_13 : sx_fl "PlaceTimePlansModel" 13 9 3 := ⟨_, rfl, by decide, tw_697⟩
theorem fl_M_16 : sx_fl "PlaceTimePlansModel" 16 9 4 := ⟨_, rfl, by decide, tw_698⟩
theorem fl_M_19 : sx_fl "PlaceTimePlansModel" 19 9 5 := ⟨_, rfl, by decide, tw_699⟩
theorem fl_M_22 : sx_fl "PlaceTimePlansModel" 22 9 6 := ⟨_, rfl, by decide, tw_700⟩
theorem fl_M_25 : sx_fl "PlaceTimePlansModel" 25 9 7 := ⟨_, rfl, by decide, tw_701⟩
theorem fl_M_29 : sx_fl "PlaceTimePlansModel" 29 9 8 := ⟨_, rfl, by decide, tw_702⟩
theorem fl_M_32 : sx_fl "PlaceTimePlansModel" 32 9 9 := ⟨_, rfl, by decide, tw_703⟩
theorem fl_M_35 : sx_fl "PlaceTimePlansModel" 35 9 10 := ⟨_, rfl, by decide, tw_704⟩
theorem fl_M_38 : sx_fl "PlaceTimePlansModel" 38 9 12 := ⟨_, rfl, by decide, tw_706⟩
theorem fl_M_41 : sx_fl "PlaceTimePlansModel" 41 9 13 := ⟨_, rfl, by decide, tw_707⟩
theorem fl_M_44 : sx_fl "PlaceTimePlansModel" 44 9 14 := ⟨_, rfl, by decide, tw_708⟩
theorem fl_M_47 : sx_fl "PlaceTimePlansModel" 47 9 16 := ⟨_, rfl, by decide, tw_710⟩
theorem fl_M_50 : sx_fl "PlaceTimePlansModel" 50 9 17 := ⟨_, rfl, by decide, tw_711⟩
theorem fl_M_53 : sx_fl "PlaceTimePlansModel" 53 9 18 := ⟨_, rfl, by decide, tw_712⟩
theorem fl_M_56 : sx_fl "PlaceTimePlansModel" 56 9 20 := ⟨_, rfl, by decide, tw_714⟩
theorem fl_M_59 : sx_fl "PlaceTimePlansModel" 59 9 21 := ⟨_, rfl, by decide, tw_715⟩
theorem fl_M_62 : sx_fl "PlaceTimePlansModel" 62 9 22 := ⟨_, rfl, by decide, tw_716⟩
theorem fl_M_65 : sx_fl "PlaceTimePlansModel" 65 9 23 := ⟨_, rfl, by decide, tw_717⟩
theorem fl_M_68 : sx_fl "PlaceTimePlansModel" 68 9 24 := ⟨_, rfl, by decide, tw_718⟩
theorem fl_M_71 : sx_fl "PlaceTimePlansModel" 71 9 27 := ⟨_, rfl, by decide, tw_721⟩
theorem fl_M_74 : sx_fl "PlaceTimePlansModel" 74 9 28 := ⟨_, rfl, by decide, tw_722⟩
theorem fl_M_77 : sx_fl "PlaceTimePlansModel" 77 9 29 := ⟨_, rfl, by decide, tw_723⟩
theorem fl_M_80 : sx_fl "PlaceTimePlansModel" 80 9 30 := ⟨_, rfl, by decide, tw_724⟩
theorem fl_M_83 : sx_fl "PlaceTimePlansModel" 83 9 31 := ⟨_, rfl, by decide, tw_725⟩
theorem fl_M_86 : sx_fl "PlaceTimePlansModel" 86 9 32 := ⟨_, rfl, by decide, tw_726⟩
theorem fl_M_89 : sx_fl "PlaceTimePlansModel" 89 9 36 := ⟨_, rfl, by decide, tw_730⟩
theorem fl_M_92 : sx_fl "PlaceTimePlansModel" 92 9 37 := ⟨_, rfl, by decide, tw_731⟩
theorem fl_M_95 : sx_fl "PlaceTimePlansModel" 95 9 2 := ⟨_, rfl, by decide, tw_696⟩
theorem fl_M_99 : sx_fl "PlaceTimePlansModel" 99 9 19 := ⟨_, rfl, by decide, tw_713⟩
theorem fl_M_107 : sx_fl "PlaceTimePlansModel" 107 9 0 := ⟨_, rfl, by decide, tw_694⟩
theorem fl_M_117 : sx_fl "PlaceTimePlansModel" 117 9 11 := ⟨_, rfl, by decide, tw_705⟩
theorem fl_M_120 : sx_fl "PlaceTimePlansModel" 120 9 15 := ⟨_, rfl, by decide, tw_709⟩
theorem fl_M_144 : sx_fl "PlaceTimePlansModel" 144 9 33 := ⟨_, rfl, by decide, tw_727⟩
theorem fl_M_150 : sx_fl "PlaceTimePlansModel" 150 9 34 := ⟨_, rfl, by decide, tw_728⟩
theorem fl_M_156 : sx_fl "PlaceTimePlansModel" 156 9 35 := ⟨_, rfl, by decide, tw_729⟩
theorem fl_M_170 : sx_fl "PlaceTimePlansModel" 170 9 26 := ⟨_, rfl, by decide, tw_720⟩
theorem fl_M_180 : sx_fl "PlaceTimePlansModel" 180 9 25 := ⟨_, rfl, by decide, tw_719⟩
theorem nf_D_0 : ∀ q : vw_C, sx_cl[0]? = some q → (q.2.1 0).2.2.2 = true ∧ (q.2.1 0).1 = "PlaceTimePlans$Days" := fun q hq => by cases hq; exact ⟨rfl, rfl⟩
theorem nf_D_1 : ∀ q : vw_C, sx_cl[0]? = some q → (q.2.1 1).2.2.2 = true ∧ (q.2.1 1).1 = "PlaceTimePlans$Days" := fun q hq => by cases hq; exact ⟨rfl, rfl⟩
theorem nf_D_2 : ∀ q : vw_C, sx_cl[0]? = some q → (q.2.1 2).2.2.2 = true ∧ (q.2.1 2).1 = "PlaceTimePlans$Days" := fun q hq => by cases hq; exact ⟨rfl, rfl⟩
theorem nf_D_3 : ∀ q : vw_C, sx_cl[0]? = some q → (q.2.1 3).2.2.2 = false := fun q hq => by cases hq; rfl
theorem nf_L_0 : ∀ q : vw_C, sx_cl[1]? = some q → (q.2.1 0).2.2.2 = true ∧ (q.2.1 0).1 = "PlaceTimePlans$Line" := fun q hq => by cases hq; exact ⟨rfl, rfl⟩
theorem nf_L_1 : ∀ q : vw_C, sx_cl[1]? = some q → (q.2.1 1).2.2.2 = true ∧ (q.2.1 1).1 = "PlaceTimePlans$Line" := fun q hq => by cases hq; exact ⟨rfl, rfl⟩
theorem nf_L_2 : ∀ q : vw_C, sx_cl[1]? = some q → (q.2.1 2).2.2.2 = true ∧ (q.2.1 2).1 = "PlaceTimePlans$Line" := fun q hq => by cases hq; exact ⟨rfl, rfl⟩
theorem nf_L_3 : ∀ q : vw_C, sx_cl[1]? = some q → (q.2.1 3).2.2.2 = true ∧ (q.2.1 3).1 = "PlaceTimePlans$Line" := fun q hq => by cases hq; exact ⟨rfl, rfl⟩
theorem nf_L_4 : ∀ q : vw_C, sx_cl[1]? = some q → (q.2.1 4).2.2.2 = true ∧ (q.2.1 4).1 = "PlaceTimePlans$Line" := fun q hq => by cases hq; exact ⟨rfl, rfl⟩
theorem nf_L_5 : ∀ q : vw_C, sx_cl[1]? = some q → (q.2.1 5).2.2.2 = true ∧ (q.2.1 5).1 = "PlaceTimePlans$Line" := fun q hq => by cases hq; exact ⟨rfl, rfl⟩
theorem nf_L_6 : ∀ q : vw_C, sx_cl[1]? = some q → (q.2.1 6).2.2.2 = true ∧ (q.2.1 6).1 = "PlaceTimePlans$Line" := fun q hq => by cases hq; exact ⟨rfl, rfl⟩
theorem nf_L_7 : ∀ q : vw_C, sx_cl[1]? = some q → (q.2.1 7).2.2.2 = true ∧ (q.2.1 7).1 = "PlaceTimePlans$Line" := fun q hq => by cases hq; exact ⟨rfl, rfl⟩
theorem nf_L_8 : ∀ q : vw_C, sx_cl[1]? = some q → (q.2.1 8).2.2.2 = false := fun q hq => by cases hq; rfl
theorem nf_L_9 : ∀ q : vw_C, sx_cl[1]? = some q → (q.2.1 9).2.2.2 = false := fun q hq => by cases hq; rfl
theorem nf_L_10 : ∀ q : vw_C, sx_cl[1]? = some q → (q.2.1 10).2.2.2 = false := fun q hq => by cases hq; rfl
theorem nf_P_0 : ∀ q : vw_C, sx_cl[2]? = some q → (q.2.1 0).2.2.2 = true ∧ (q.2.1 0).1 = "PlaceTimePlans$Placing" := fun q hq => by cases hq; exact ⟨rfl, rfl⟩
theorem nf_P_1 : ∀ q : vw_C, sx_cl[2]? = some q → (q.2.1 1).2.2.2 = true ∧ (q.2.1 1).1 = "PlaceTimePlans$Placing" := fun q hq => by cases hq; exact ⟨rfl, rfl⟩
theorem nf_R_0 : ∀ q : vw_C, sx_cl[3]? = some q → (q.2.1 0).2.2.2 = true ∧ (q.2.1 0).1 = "PlaceTimePlans$Rules" := fun q hq => by cases hq; exact ⟨rfl, rfl⟩
theorem nf_R_1 : ∀ q : vw_C, sx_cl[3]? = some q → (q.2.1 1).2.2.2 = true ∧ (q.2.1 1).1 = "PlaceTimePlans$Rules" := fun q hq => by cases hq; exact ⟨rfl, rfl⟩
theorem nf_R_2 : ∀ q : vw_C, sx_cl[3]? = some q → (q.2.1 2).2.2.2 = true ∧ (q.2.1 2).1 = "PlaceTimePlans$Rules" := fun q hq => by cases hq; exact ⟨rfl, rfl⟩
theorem nf_S_0 : ∀ q : vw_C, sx_cl[4]? = some q → (q.2.1 0).2.2.2 = true ∧ (q.2.1 0).1 = "PlaceTimePlans$Search" := fun q hq => by cases hq; exact ⟨rfl, rfl⟩
theorem nf_S_1 : ∀ q : vw_C, sx_cl[4]? = some q → (q.2.1 1).2.2.2 = true ∧ (q.2.1 1).1 = "PlaceTimePlans$Search" := fun q hq => by cases hq; exact ⟨rfl, rfl⟩
theorem nf_S_2 : ∀ q : vw_C, sx_cl[4]? = some q → (q.2.1 2).2.2.2 = true ∧ (q.2.1 2).1 = "PlaceTimePlans$Search" := fun q hq => by cases hq; exact ⟨rfl, rfl⟩
theorem nf_S_3 : ∀ q : vw_C, sx_cl[4]? = some q → (q.2.1 3).2.2.2 = true ∧ (q.2.1 3).1 = "PlaceTimePlans$Search" := fun q hq => by cases hq; exact ⟨rfl, rfl⟩
theorem nf_S_4 : ∀ q : vw_C, sx_cl[4]? = some q → (q.2.1 4).2.2.2 = true ∧ (q.2.1 4).1 = "PlaceTimePlans$Search" := fun q hq => by cases hq; exact ⟨rfl, rfl⟩
theorem nf_S_5 : ∀ q : vw_C, sx_cl[4]? = some q → (q.2.1 5).2.2.2 = true ∧ (q.2.1 5).1 = "PlaceTimePlans$Search" := fun q hq => by cases hq; exact ⟨rfl, rfl⟩
theorem nf_S_6 : ∀ q : vw_C, sx_cl[4]? = some q → (q.2.1 6).2.2.2 = true ∧ (q.2.1 6).1 = "PlaceTimePlans$Search" := fun q hq => by cases hq; exact ⟨rfl, rfl⟩
theorem nf_S_7 : ∀ q : vw_C, sx_cl[4]? = some q → (q.2.1 7).2.2.2 = true ∧ (q.2.1 7).1 = "PlaceTimePlans$Search" := fun q hq => by cases hq; exact ⟨rfl, rfl⟩
theorem nf_S_8 : ∀ q : vw_C, sx_cl[4]? = some q → (q.2.1 8).2.2.2 = false := fun q hq => by cases hq; rfl
theorem nf_S_9 : ∀ q : vw_C, sx_cl[4]? = some q → (q.2.1 9).2.2.2 = false := fun q hq => by cases hq; rfl
theorem nf_S_10 : ∀ q : vw_C, sx_cl[4]? = some q → (q.2.1 10).2.2.2 = false := fun q hq => by cases hq; rfl
theorem nf_S_11 : ∀ q : vw_C, sx_cl[4]? = some q → (q.2.1 11).2.2.2 = false := fun q hq => by cases hq; rfl
theorem nf_S_12 : ∀ q : vw_C, sx_cl[4]? = some q → (q.2.1 12).2.2.2 = false := fun q hq => by cases hq; rfl
theorem nf_S_13 : ∀ q : vw_C, sx_cl[4]? = some q → (q.2.1 13).2.2.2 = false := fun q hq => by cases hq; rfl
theorem nf_S_14 : ∀ q : vw_C, sx_cl[4]? = some q → (q.2.1 14).2.2.2 = false := fun q hq => by cases hq; rfl
theorem nf_H_0 : ∀ q : vw_C, sx_cl[5]? = some q → (q.2.1 0).2.2.2 = true ∧ (q.2.1 0).1 = "PlaceTimePlans$Weather" := fun q hq => by cases hq; exact ⟨rfl, rfl⟩
theorem nf_H_1 : ∀ q : vw_C, sx_cl[5]? = some q → (q.2.1 1).2.2.2 = true ∧ (q.2.1 1).1 = "PlaceTimePlans$Weather" := fun q hq => by cases hq; exact ⟨rfl, rfl⟩
theorem nf_H_2 : ∀ q : vw_C, sx_cl[5]? = some q → (q.2.1 2).2.2.2 = true ∧ (q.2.1 2).1 = "PlaceTimePlans$Weather" := fun q hq => by cases hq; exact ⟨rfl, rfl⟩
theorem nf_H_3 : ∀ q : vw_C, sx_cl[5]? = some q → (q.2.1 3).2.2.2 = false := fun q hq => by cases hq; rfl
theorem nf_W_0 : ∀ q : vw_C, sx_cl[6]? = some q → (q.2.1 0).2.2.2 = false := fun q hq => by cases hq; rfl
theorem nf_W_1 : ∀ q : vw_C, sx_cl[6]? = some q → (q.2.1 1).2.2.2 = false := fun q hq => by cases hq; rfl
theorem nf_K_0 : ∀ q : vw_C, sx_cl[7]? = some q → (q.2.1 0).2.2.2 = false := fun q hq => by cases hq; rfl
theorem nf_K_1 : ∀ q : vw_C, sx_cl[7]? = some q → (q.2.1 1).2.2.2 = false := fun q hq => by cases hq; rfl
theorem nf_K_2 : ∀ q : vw_C, sx_cl[7]? = some q → (q.2.1 2).2.2.2 = false := fun q hq => by cases hq; rfl
theorem nf_K_3 : ∀ q : vw_C, sx_cl[7]? = some q → (q.2.1 3).2.2.2 = false := fun q hq => by cases hq; rfl
theorem nf_K_4 : ∀ q : vw_C, sx_cl[7]? = some q → (q.2.1 4).2.2.2 = false := fun q hq => by cases hq; rfl
theorem nf_K_5 : ∀ q : vw_C, sx_cl[7]? = some q → (q.2.1 5).2.2.2 = false := fun q hq => by cases hq; rfl
theorem nf_K_6 : ∀ q : vw_C, sx_cl[7]? = some q → (q.2.1 6).2.2.2 = false := fun q hq => by cases hq; rfl
theorem nf_K_7 : ∀ q : vw_C, sx_cl[7]? = some q → (q.2.1 7).2.2.2 = false := fun q hq => by cases hq; rfl
theorem nf_K_8 : ∀ q : vw_C, sx_cl[7]? = some q → (q.2.1 8).2.2.2 = false := fun q hq => by cases hq; rfl
theorem nf_K_9 : ∀ q : vw_C, sx_cl[7]? = some q → (q.2.1 9).2.2.2 = false := fun q hq => by cases hq; rfl
theorem nf_K_10 : ∀ q : vw_C, sx_cl[7]? = some q → (q.2.1 10).2.2.2 = false := fun q hq => by cases hq; rfl
theorem nf_T_0 : ∀ q : vw_C, sx_cl[8]? = some q → (q.2.1 0).2.2.2 = true ∧ (q.2.1 0).1 = "PlaceTimePlans" := fun q hq => by cases hq; exact ⟨rfl, rfl⟩
theorem nf_T_1 : ∀ q : vw_C, sx_cl[8]? = some q → (q.2.1 1).2.2.2 = true ∧ (q.2.1 1).1 = "PlaceTimePlans" := fun q hq => by cases hq; exact ⟨rfl, rfl⟩
theorem nf_T_2 : ∀ q : vw_C, sx_cl[8]? = some q → (q.2.1 2).2.2.2 = true ∧ (q.2.1 2).1 = "PlaceTimePlans" := fun q hq => by cases hq; exact ⟨rfl, rfl⟩
theorem nf_T_3 : ∀ q : vw_C, sx_cl[8]? = some q → (q.2.1 3).2.2.2 = true ∧ (q.2.1 3).1 = "PlaceTimePlans" := fun q hq => by cases hq; exact ⟨rfl, rfl⟩
theorem nf_T_4 : ∀ q : vw_C, sx_cl[8]? = some q → (q.2.1 4).2.2.2 = true ∧ (q.2.1 4).1 = "PlaceTimePlans" := fun q hq => by cases hq; exact ⟨rfl, rfl⟩
theorem nf_T_5 : ∀ q : vw_C, sx_cl[8]? = some q → (q.2.1 5).2.2.2 = true ∧ (q.2.1 5).1 = "PlaceTimePlans" := fun q hq => by cases hq; exact ⟨rfl, rfl⟩
theorem nf_T_6 : ∀ q : vw_C, sx_cl[8]? = some q → (q.2.1 6).2.2.2 = true ∧ (q.2.1 6).1 = "PlaceTimePlans" := fun q hq => by cases hq; exact ⟨rfl, rfl⟩
theorem nf_T_7 : ∀ q : vw_C, sx_cl[8]? = some q → (q.2.1 7).2.2.2 = false := fun q hq => by cases hq; rfl
theorem nf_T_8 : ∀ q : vw_C, sx_cl[8]? = some q → (q.2.1 8).2.2.2 = false := fun q hq => by cases hq; rfl
theorem nf_T_9 : ∀ q : vw_C, sx_cl[8]? = some q → (q.2.1 9).2.2.2 = false := fun q hq => by cases hq; rfl
theorem nf_T_10 : ∀ q : vw_C, sx_cl[8]? = some q → (q.2.1 10).2.2.2 = false := fun q hq => by cases hq; rfl
theorem nf_M_0 : ∀ q : vw_C, sx_cl[9]? = some q → (q.2.1 0).2.2.2 = false := fun q hq => by cases hq; rfl
theorem nf_M_1 : ∀ q : vw_C, sx_cl[9]? = some q → (q.2.1 1).2.2.2 = true ∧ (q.2.1 1).1 = "PlaceTimePlansModel" := fun q hq => by cases hq; exact ⟨rfl, rfl⟩
theorem nf_M_2 : ∀ q : vw_C, sx_cl[9]? = some q → (q.2.1 2).2.2.2 = false := fun q hq => by cases hq; rfl
theorem nf_M_3 : ∀ q : vw_C, sx_cl[9]? = some q → (q.2.1 3).2.2.2 = true ∧ (q.2.1 3).1 = "PlaceTimePlansModel" := fun q hq => by cases hq; exact ⟨rfl, rfl⟩
theorem nf_M_4 : ∀ q : vw_C, sx_cl[9]? = some q → (q.2.1 4).2.2.2 = true ∧ (q.2.1 4).1 = "PlaceTimePlansModel" := fun q hq => by cases hq; exact ⟨rfl, rfl⟩
theorem nf_M_5 : ∀ q : vw_C, sx_cl[9]? = some q → (q.2.1 5).2.2.2 = true ∧ (q.2.1 5).1 = "PlaceTimePlansModel" := fun q hq => by cases hq; exact ⟨rfl, rfl⟩
theorem nf_M_6 : ∀ q : vw_C, sx_cl[9]? = some q → (q.2.1 6).2.2.2 = true ∧ (q.2.1 6).1 = "PlaceTimePlansModel" := fun q hq => by cases hq; exact ⟨rfl, rfl⟩
theorem nf_M_7 : ∀ q : vw_C, sx_cl[9]? = some q → (q.2.1 7).2.2.2 = true ∧ (q.2.1 7).1 = "PlaceTimePlansModel" := fun q hq => by cases hq; exact ⟨rfl, rfl⟩
theorem nf_M_8 : ∀ q : vw_C, sx_cl[9]? = some q → (q.2.1 8).2.2.2 = true ∧ (q.2.1 8).1 = "PlaceTimePlansModel" := fun q hq => by cases hq; exact ⟨rfl, rfl⟩
theorem nf_M_9 : ∀ q : vw_C, sx_cl[9]? = some q → (q.2.1 9).2.2.2 = true ∧ (q.2.1 9).1 = "PlaceTimePlansModel" := fun q hq => by cases hq; exact ⟨rfl, rfl⟩
theorem nf_M_10 : ∀ q : vw_C, sx_cl[9]? = some q → (q.2.1 10).2.2.2 = true ∧ (q.2.1 10).1 = "PlaceTimePlansModel" := fun q hq => by cases hq; exact ⟨rfl, rfl⟩
theorem nf_M_11 : ∀ q : vw_C, sx_cl[9]? = some q → (q.2.1 11).2.2.2 = false := fun q hq => by cases hq; rfl
theorem nf_M_12 : ∀ q : vw_C, sx_cl[9]? = some q → (q.2.1 12).2.2.2 = true ∧ (q.2.1 12).1 = "PlaceTimePlansModel" := fun q hq => by cases hq; exact ⟨rfl, rfl⟩
theorem nf_M_13 : ∀ q : vw_C, sx_cl[9]? = some q → (q.2.1 13).2.2.2 = true ∧ (q.2.1 13).1 = "PlaceTimePlansModel" := fun q hq => by cases hq; exact ⟨rfl, rfl⟩
theorem nf_M_14 : ∀ q : vw_C, sx_cl[9]? = some q → (q.2.1 14).2.2.2 = true ∧ (q.2.1 14).1 = "PlaceTimePlansModel" := fun q hq => by cases hq; exact ⟨rfl, rfl⟩
theorem nf_M_15 : ∀ q : vw_C, sx_cl[9]? = some q → (q.2.1 15).2.2.2 = false := fun q hq => by cases hq; rfl
theorem nf_M_16 : ∀ q : vw_C, sx_cl[9]? = some q → (q.2.1 16).2.2.2 = true ∧ (q.2.1 16).1 = "PlaceTimePlansModel" := fun q hq => by cases hq; exact ⟨rfl, rfl⟩
theorem nf_M_17 : ∀ q : vw_C, sx_cl[9]? = some q → (q.2.1 17).2.2.2 = true ∧ (q.2.1 17).1 = "PlaceTimePlansModel" := fun q hq => by cases hq; exact ⟨rfl, rfl⟩
theorem nf_M_18 : ∀ q : vw_C, sx_cl[9]? = some q → (q.2.1 18).2.2.2 = true ∧ (q.2.1 18).1 = "PlaceTimePlansModel" := fun q hq => by cases hq; exact ⟨rfl, rfl⟩
theorem nf_M_19 : ∀ q : vw_C, sx_cl[9]? = some q → (q.2.1 19).2.2.2 = false := fun q hq => by cases hq; rfl
theorem nf_M_20 : ∀ q : vw_C, sx_cl[9]? = some q → (q.2.1 20).2.2.2 = true ∧ (q.2.1 20).1 = "PlaceTimePlansModel" := fun q hq => by cases hq; exact ⟨rfl, rfl⟩
theorem nf_M_21 : ∀ q : vw_C, sx_cl[9]? = some q → (q.2.1 21).2.2.2 = true ∧ (q.2.1 21).1 = "PlaceTimePlansModel" := fun q hq => by cases hq; exact ⟨rfl, rfl⟩
theorem nf_M_22 : ∀ q : vw_C, sx_cl[9]? = some q → (q.2.1 22).2.2.2 = true ∧ (q.2.1 22).1 = "PlaceTimePlansModel" := fun q hq => by cases hq; exact ⟨rfl, rfl⟩
theorem nf_M_23 : ∀ q : vw_C, sx_cl[9]? = some q → (q.2.1 23).2.2.2 = true ∧ (q.2.1 23).1 = "PlaceTimePlansModel" := fun q hq => by cases hq; exact ⟨rfl, rfl⟩
theorem nf_M_24 : ∀ q : vw_C, sx_cl[9]? = some q → (q.2.1 24).2.2.2 = true ∧ (q.2.1 24).1 = "PlaceTimePlansModel" := fun q hq => by cases hq; exact ⟨rfl, rfl⟩
theorem nf_M_25 : ∀ q : vw_C, sx_cl[9]? = some q → (q.2.1 25).2.2.2 = false := fun q hq => by cases hq; rfl
theorem nf_M_26 : ∀ q : vw_C, sx_cl[9]? = some q → (q.2.1 26).2.2.2 = false := fun q hq => by cases hq; rfl
theorem nf_M_27 : ∀ q : vw_C, sx_cl[9]? = some q → (q.2.1 27).2.2.2 = true ∧ (q.2.1 27).1 = "PlaceTimePlansModel" := fun q hq => by cases hq; exact ⟨rfl, rfl⟩
theorem nf_M_28 : ∀ q : vw_C, sx_cl[9]? = some q → (q.2.1 28).2.2.2 = true ∧ (q.2.1 28).1 = "PlaceTimePlansModel" := fun q hq => by cases hq; exact ⟨rfl, rfl⟩
theorem nf_M_29 : ∀ q : vw_C, sx_cl[9]? = some q → (q.2.1 29).2.2.2 = true ∧ (q.2.1 29).1 = "PlaceTimePlansModel" := fun q hq => by cases hq; exact ⟨rfl, rfl⟩
theorem nf_M_30 : ∀ q : vw_C, sx_cl[9]? = some q → (q.2.1 30).2.2.2 = true ∧ (q.2.1 30).1 = "PlaceTimePlansModel" := fun q hq => by cases hq; exact ⟨rfl, rfl⟩
theorem nf_M_31 : ∀ q : vw_C, sx_cl[9]? = some q → (q.2.1 31).2.2.2 = true ∧ (q.2.1 31).1 = "PlaceTimePlansModel" := fun q hq => by cases hq; exact ⟨rfl, rfl⟩
theorem nf_M_32 : ∀ q : vw_C, sx_cl[9]? = some q → (q.2.1 32).2.2.2 = true ∧ (q.2.1 32).1 = "PlaceTimePlansModel" := fun q hq => by cases hq; exact ⟨rfl, rfl⟩
theorem nf_M_33 : ∀ q : vw_C, sx_cl[9]? = some q → (q.2.1 33).2.2.2 = false := fun q hq => by cases hq; rfl
theorem nf_M_34 : ∀ q : vw_C, sx_cl[9]? = some q → (q.2.1 34).2.2.2 = false := fun q hq => by cases hq; rfl
theorem nf_M_35 : ∀ q : vw_C, sx_cl[9]? = some q → (q.2.1 35).2.2.2 = false := fun q hq => by cases hq; rfl
theorem nf_M_36 : ∀ q : vw_C, sx_cl[9]? = some q → (q.2.1 36).2.2.2 = true ∧ (q.2.1 36).1 = "PlaceTimePlansModel" := fun q hq => by cases hq; exact ⟨rfl, rfl⟩
theorem nf_M_37 : ∀ q : vw_C, sx_cl[9]? = some q → (q.2.1 37).2.2.2 = true ∧ (q.2.1 37).1 = "PlaceTimePlansModel" := fun q hq => by cases hq; exact ⟨rfl, rfl⟩
theorem lk_T_9 : sx_lk "PlaceTimePlans" 9 y_L_init := Or.inl tw_22
theorem lk_T_18 : sx_lk "PlaceTimePlans" 18 y_R_init := Or.inl tw_167
theorem lk_T_27 : sx_lk "PlaceTimePlans" 27 y_P_init := Or.inr ⟨_, tw_196⟩
theorem lk_T_34 : sx_lk "PlaceTimePlans" 34 y_S_init := Or.inl tw_217
theorem lk_T_43 : sx_lk "PlaceTimePlans" 43 y_W_init := Or.inr ⟨_, tw_279⟩
theorem lk_T_50 : sx_lk "PlaceTimePlans" 50 y_H_init := Or.inl tw_282
theorem lk_T_61 : sx_lk "PlaceTimePlans" 61 y_T_isKind := Or.inl tw_337
theorem lk_T_69 : sx_lk "PlaceTimePlans" 69 y_L_addCrew := Or.inl tw_343
theorem lk_T_73 : sx_lk "PlaceTimePlans" 73 y_T_forgetPlan := Or.inl tw_347
theorem lk_T_76 : sx_lk "PlaceTimePlans" 76 y_T_isWithin := Or.inl tw_340
theorem lk_T_83 : sx_lk "PlaceTimePlans" 83 y_L_addWork := Or.inl tw_355
theorem lk_T_87 : sx_lk "PlaceTimePlans" 87 y_T_isWork := Or.inl tw_374
theorem lk_T_90 : sx_lk "PlaceTimePlans" 90 y_L_setGap := Or.inl tw_378
theorem lk_T_106 : sx_lk "PlaceTimePlans" 106 y_K_comesTo := Or.inl tw_390
theorem lk_T_112 : sx_lk "PlaceTimePlans" 112 y_L_addBar := Or.inl tw_394
theorem lk_T_119 : sx_lk "PlaceTimePlans" 119 y_D_isWorking := Or.inl tw_402
theorem lk_T_124 : sx_lk "PlaceTimePlans" 124 y_D_giveRest := Or.inl tw_406
theorem lk_T_132 : sx_lk "PlaceTimePlans" 132 y_K_setSpeed := Or.inl tw_419
theorem lk_T_138 : sx_lk "PlaceTimePlans" 138 y_S_seek := Or.inl tw_424
theorem lk_T_142 : sx_lk "PlaceTimePlans" 142 y_T_takeOutcome := Or.inl tw_556
theorem lk_T_156 : sx_lk "PlaceTimePlans" 156 y_T_isPlanned := Or.inl tw_574
theorem lk_T_162 : sx_lk "PlaceTimePlans" 162 y_L_endOf := Or.inl tw_578
theorem lk_T_169 : sx_lk "PlaceTimePlans" 169 y_L_placeOn := Or.inl tw_583
theorem lk_T_173 : sx_lk "PlaceTimePlans" 173 y_L_passTime := Or.inl tw_592
theorem lk_T_177 : sx_lk "PlaceTimePlans" 177 y_T_commonDivisor := Or.inl tw_593
theorem lk_T_180 : sx_lk "PlaceTimePlans" 180 y_L_lastShared := Or.inl tw_600
theorem lk_T_183 : sx_lk "PlaceTimePlans" 183 y_L_firstShared := Or.inl tw_601
theorem lk_T_192 : sx_lk "PlaceTimePlans" 192 y_L_daysOfCrew := Or.inl tw_610
theorem lk_T_195 : sx_lk "PlaceTimePlans" 195 y_J_max := Or.inl tw_614
theorem lk_T_200 : sx_lk "PlaceTimePlans" 200 y_R_canStandAlone := Or.inl tw_619
theorem lk_T_209 : sx_lk "PlaceTimePlans" 209 y_L_frozenWorks := Or.inl tw_635
theorem lk_T_216 : sx_lk "PlaceTimePlans" 216 y_R_open := Or.inl tw_651
theorem lk_T_220 : sx_lk "PlaceTimePlans" 220 y_T_canStartLater := Or.inl tw_652
theorem lk_T_224 : sx_lk "PlaceTimePlans" 224 y_H_begin := Or.inl tw_663
theorem lk_T_227 : sx_lk "PlaceTimePlans" 227 y_H_drawEnd := Or.inl tw_667
theorem lk_T_245 : sx_lk "PlaceTimePlans" 245 y_P_isElsewhere := Or.inl tw_560
theorem lk_T_248 : sx_lk "PlaceTimePlans" 248 y_P_put := Or.inl tw_561
theorem lk_T_254 : sx_lk "PlaceTimePlans" 254 y_D_before := Or.inl tw_656
theorem lk_T_257 : sx_lk "PlaceTimePlans" 257 y_W_holds := Or.inl tw_657
theorem lk_T_260 : sx_lk "PlaceTimePlans" 260 y_R_hasRoom := Or.inl tw_658
theorem lk_D_22 : sx_lk "PlaceTimePlans$Days" 22 y_D_countWorkingDays := Or.inl tw_32
theorem lk_D_25 : sx_lk "PlaceTimePlans$Days" 25 y_T_isWithin := Or.inr ⟨_, tw_410⟩
theorem lk_L_11 : sx_lk "PlaceTimePlans$Line" 11 y_D_init := Or.inl tw_28
theorem lk_L_43 : sx_lk "PlaceTimePlans$Line" 43 y_K_init := Or.inr ⟨_, tw_55⟩
theorem lk_L_51 : sx_lk "PlaceTimePlans$Line" 51 y_T_isWithin := Or.inr ⟨_, tw_359⟩
theorem lk_L_71 : sx_lk "PlaceTimePlans$Line" 71 y_K_setSpeed := Or.inl tw_360
theorem lk_L_78 : sx_lk "PlaceTimePlans$Line" 78 y_J_max := Or.inl tw_486
theorem lk_L_84 : sx_lk "PlaceTimePlans$Line" 84 y_J_min := Or.inl tw_481
theorem lk_L_87 : sx_lk "PlaceTimePlans$Line" 87 y_D_before := Or.inl tw_493
theorem lk_L_94 : sx_lk "PlaceTimePlans$Line" 94 y_D_dayOf := Or.inl tw_494
theorem lk_L_102 : sx_lk "PlaceTimePlans$Line" 102 y_K_wayTo := Or.inl tw_491
theorem lk_L_105 : sx_lk "PlaceTimePlans$Line" 105 y_K_wholeDays := Or.inl tw_492
theorem lk_L_115 : sx_lk "PlaceTimePlans$Line" 115 y_L_endOf := Or.inl tw_587
theorem lk_P_18 : sx_lk "PlaceTimePlans$Placing" 18 y_T_isWithin := Or.inr ⟨_, tw_524⟩
theorem lk_R_11 : sx_lk "PlaceTimePlans$Rules" 11 y_W_init := Or.inr ⟨_, tw_173⟩
theorem lk_R_29 : sx_lk "PlaceTimePlans$Rules" 29 y_R_openAlone := Or.inl tw_436
theorem lk_R_33 : sx_lk "PlaceTimePlans$Rules" 33 y_W_isEmpty := Or.inl tw_623
theorem lk_R_47 : sx_lk "PlaceTimePlans$Rules" 47 y_R_keepGaps := Or.inl tw_469
theorem lk_R_51 : sx_lk "PlaceTimePlans$Rules" 51 y_D_before := Or.inl tw_440
theorem lk_R_67 : sx_lk "PlaceTimePlans$Rules" 67 y_J_min := Or.inl tw_444
theorem lk_R_73 : sx_lk "PlaceTimePlans$Rules" 73 y_W_set := Or.inl tw_445
theorem lk_R_80 : sx_lk "PlaceTimePlans$Rules" 80 y_W_raiseLeast := Or.inl tw_449
theorem lk_R_94 : sx_lk "PlaceTimePlans$Rules" 94 y_K_wayTo := Or.inl tw_454
theorem lk_R_100 : sx_lk "PlaceTimePlans$Rules" 100 y_R_firstStart := Or.inl tw_458
theorem lk_R_104 : sx_lk "PlaceTimePlans$Rules" 104 y_L_gapBetween := Or.inl tw_473
theorem lk_R_110 : sx_lk "PlaceTimePlans$Rules" 110 y_L_lastShared := Or.inl tw_477
theorem lk_R_113 : sx_lk "PlaceTimePlans$Rules" 113 y_L_firstShared := Or.inl tw_482
theorem lk_R_116 : sx_lk "PlaceTimePlans$Rules" 116 y_L_passTime := Or.inl tw_487
theorem lk_R_120 : sx_lk "PlaceTimePlans$Rules" 120 y_R_lastStart := Or.inl tw_498
theorem lk_R_123 : sx_lk "PlaceTimePlans$Rules" 123 y_W_lowerGreatest := Or.inl tw_502
theorem lk_R_126 : sx_lk "PlaceTimePlans$Rules" 126 y_K_wholeDays := Or.inl tw_462
theorem lk_R_130 : sx_lk "PlaceTimePlans$Rules" 130 y_J_floorDiv := Or.inl tw_466
theorem lk_R_133 : sx_lk "PlaceTimePlans$Rules" 133 y_R_isCrowded := Or.inl tw_543
theorem lk_R_148 : sx_lk "PlaceTimePlans$Rules" 148 y_T_isWithin := Or.inr ⟨_, tw_547⟩
theorem lk_S_11 : sx_lk "PlaceTimePlans$Search" 11 y_P_init := Or.inr ⟨_, tw_222⟩
theorem lk_S_45 : sx_lk "PlaceTimePlans$Search" 45 y_W_init := Or.inr ⟨_, tw_225⟩
theorem lk_S_63 : sx_lk "PlaceTimePlans$Search" 63 y_S_tryStarts := Or.inl tw_428
theorem lk_S_90 : sx_lk "PlaceTimePlans$Search" 90 y_R_open := Or.inl tw_432
theorem lk_S_96 : sx_lk "PlaceTimePlans$Search" 96 y_S_tryOne := Or.inl tw_507
theorem lk_S_100 : sx_lk "PlaceTimePlans$Search" 100 y_L_endOf := Or.inl tw_511
theorem lk_S_104 : sx_lk "PlaceTimePlans$Search" 104 y_J_max := Or.inl tw_515
theorem lk_S_109 : sx_lk "PlaceTimePlans$Search" 109 y_S_isMove := Or.inl tw_516
theorem lk_S_113 : sx_lk "PlaceTimePlans$Search" 113 y_S_isBetter := Or.inl tw_525
theorem lk_S_117 : sx_lk "PlaceTimePlans$Search" 117 y_S_keepsRules := Or.inl tw_529
theorem lk_S_120 : sx_lk "PlaceTimePlans$Search" 120 y_P_put := Or.inl tw_548
theorem lk_S_123 : sx_lk "PlaceTimePlans$Search" 123 y_S_keepAsBest := Or.inl tw_552
theorem lk_S_126 : sx_lk "PlaceTimePlans$Search" 126 y_P_isElsewhere := Or.inl tw_520
theorem lk_S_139 : sx_lk "PlaceTimePlans$Search" 139 y_D_isWorking := Or.inl tw_533
theorem lk_S_145 : sx_lk "PlaceTimePlans$Search" 145 y_D_before := Or.inl tw_534
theorem lk_S_149 : sx_lk "PlaceTimePlans$Search" 149 y_W_holds := Or.inl tw_535
theorem lk_S_152 : sx_lk "PlaceTimePlans$Search" 152 y_R_hasRoom := Or.inl tw_539
theorem lk_H_41 : sx_lk "PlaceTimePlans$Weather" 41 y_H_drawWet := Or.inl tw_671
theorem lk_H_49 : sx_lk "PlaceTimePlans$Weather" 49 y_D_isWorking := Or.inl tw_678
theorem lk_H_54 : sx_lk "PlaceTimePlans$Weather" 54 y_H_goOn := Or.inl tw_679
theorem lk_H_57 : sx_lk "PlaceTimePlans$Weather" 57 y_J_max := Or.inl tw_683
theorem lk_W_16 : sx_lk "PlaceTimePlans$Window" 16 y_J_max := Or.inl tw_453
theorem lk_W_22 : sx_lk "PlaceTimePlans$Window" 22 y_J_min := Or.inl tw_506
theorem lk_K_18 : sx_lk "PlaceTimePlans$Work" 18 y_J_min := Or.inl tw_364
theorem lk_K_24 : sx_lk "PlaceTimePlans$Work" 24 y_J_max := Or.inl tw_367
theorem lk_Z_9 : sx_lk "PlaceTimePlansLaw" 9 y_T_init := Or.inl tw_14
theorem lk_Z_12 : sx_lk "PlaceTimePlansLaw" 12 y_M_init := Or.inl tw_690
theorem lk_Z_13 : sx_lk "PlaceTimePlansLaw" 13 y_T_crew := Or.inl tw_333
theorem lk_Z_17 : sx_lk "PlaceTimePlansLaw" 17 y_M_crew := Or.inl tw_809
theorem lk_Z_18 : sx_lk "PlaceTimePlansLaw" 18 y_T_work := Or.inl tw_351
theorem lk_Z_22 : sx_lk "PlaceTimePlansLaw" 22 y_M_work := Or.inl tw_820
theorem lk_Z_23 : sx_lk "PlaceTimePlansLaw" 23 y_T_after := Or.inl tw_370
theorem lk_Z_27 : sx_lk "PlaceTimePlansLaw" 27 y_M_after := Or.inl tw_824
theorem lk_Z_28 : sx_lk "PlaceTimePlansLaw" 28 y_T_season := Or.inl tw_382
theorem lk_Z_31 : sx_lk "PlaceTimePlansLaw" 31 y_M_season := Or.inl tw_832
theorem lk_Z_32 : sx_lk "PlaceTimePlansLaw" 32 y_T_bar := Or.inl tw_386
theorem lk_Z_35 : sx_lk "PlaceTimePlansLaw" 35 y_M_bar := Or.inl tw_836
theorem lk_Z_36 : sx_lk "PlaceTimePlansLaw" 36 y_T_rest := Or.inl tw_398
theorem lk_Z_40 : sx_lk "PlaceTimePlansLaw" 40 y_M_rest := Or.inl tw_840
theorem lk_Z_41 : sx_lk "PlaceTimePlansLaw" 41 y_T_most := Or.inl tw_411
theorem lk_Z_45 : sx_lk "PlaceTimePlansLaw" 45 y_M_most := Or.inl tw_844
theorem lk_Z_46 : sx_lk "PlaceTimePlansLaw" 46 y_T_learned := Or.inl tw_415
theorem lk_Z_50 : sx_lk "PlaceTimePlansLaw" 50 y_M_learned := Or.inl tw_848
theorem lk_Z_51 : sx_lk "PlaceTimePlansLaw" 51 y_T_run := Or.inl tw_420
theorem lk_Z_54 : sx_lk "PlaceTimePlansLaw" 54 y_M_run := Or.inl tw_852
theorem lk_Z_55 : sx_lk "PlaceTimePlansLaw" 55 y_T_proved := Or.inl tw_562
theorem lk_Z_59 : sx_lk "PlaceTimePlansLaw" 59 y_M_proved := Or.inl tw_920
theorem lk_Z_60 : sx_lk "PlaceTimePlansLaw" 60 y_T_tried := Or.inl tw_566
theorem lk_Z_64 : sx_lk "PlaceTimePlansLaw" 64 y_M_tried := Or.inl tw_924
theorem lk_Z_65 : sx_lk "PlaceTimePlansLaw" 65 y_T_told := Or.inl tw_570
theorem lk_Z_68 : sx_lk "PlaceTimePlansLaw" 68 y_M_told := Or.inl tw_928
theorem lk_Z_69 : sx_lk "PlaceTimePlansLaw" 69 y_T_at := Or.inl tw_579
theorem lk_Z_72 : sx_lk "PlaceTimePlansLaw" 72 y_M_at := Or.inl tw_936
theorem lk_Z_73 : sx_lk "PlaceTimePlansLaw" 73 y_T_passes := Or.inl tw_588
theorem lk_Z_77 : sx_lk "PlaceTimePlansLaw" 77 y_M_passes := Or.inl tw_940
theorem lk_Z_78 : sx_lk "PlaceTimePlansLaw" 78 y_T_crosses := Or.inl tw_596
theorem lk_Z_82 : sx_lk "PlaceTimePlansLaw" 82 y_M_crosses := Or.inl tw_947
theorem lk_Z_83 : sx_lk "PlaceTimePlansLaw" 83 y_T_under := Or.inl tw_602
theorem lk_Z_86 : sx_lk "PlaceTimePlansLaw" 86 y_M_under := Or.inl tw_951
theorem lk_Z_87 : sx_lk "PlaceTimePlansLaw" 87 y_T_bound := Or.inl tw_606
theorem lk_Z_90 : sx_lk "PlaceTimePlansLaw" 90 y_M_bound := Or.inl tw_955
theorem lk_Z_91 : sx_lk "PlaceTimePlansLaw" 91 y_T_lone := Or.inl tw_615
theorem lk_Z_94 : sx_lk "PlaceTimePlansLaw" 94 y_M_lone := Or.inl tw_963
theorem lk_Z_95 : sx_lk "PlaceTimePlansLaw" 95 y_T_late := Or.inl tw_627
theorem lk_Z_98 : sx_lk "PlaceTimePlansLaw" 98 y_M_late := Or.inl tw_971
theorem lk_Z_99 : sx_lk "PlaceTimePlansLaw" 99 y_T_freeze := Or.inl tw_631
theorem lk_Z_102 : sx_lk "PlaceTimePlansLaw" 102 y_M_freeze := Or.inl tw_975
theorem lk_Z_103 : sx_lk "PlaceTimePlansLaw" 103 y_T_replan := Or.inl tw_639
theorem lk_Z_106 : sx_lk "PlaceTimePlansLaw" 106 y_M_replan := Or.inl tw_916
theorem lk_Z_107 : sx_lk "PlaceTimePlansLaw" 107 y_T_moved := Or.inl tw_643
theorem lk_Z_110 : sx_lk "PlaceTimePlansLaw" 110 y_M_moved := Or.inl tw_979
theorem lk_Z_111 : sx_lk "PlaceTimePlansLaw" 111 y_T_slack := Or.inl tw_647
theorem lk_Z_114 : sx_lk "PlaceTimePlansLaw" 114 y_M_slack := Or.inl tw_983
theorem lk_Z_115 : sx_lk "PlaceTimePlansLaw" 115 y_T_odds := Or.inl tw_659
theorem lk_Z_119 : sx_lk "PlaceTimePlansLaw" 119 y_M_odds := Or.inl tw_987
theorem lk_Z_120 : sx_lk "PlaceTimePlansLaw" 120 y_T_count := Or.inl tw_684
theorem lk_Z_123 : sx_lk "PlaceTimePlansLaw" 123 y_M_count := Or.inl tw_998
theorem lk_M_103 : sx_lk "PlaceTimePlansModel" 103 y_M_within := Or.inl tw_813
theorem lk_M_110 : sx_lk "PlaceTimePlansModel" 110 y_M_changed := Or.inl tw_816
theorem lk_M_113 : sx_lk "PlaceTimePlansModel" 113 y_M_isWork := Or.inl tw_828
theorem lk_M_123 : sx_lk "PlaceTimePlansModel" 123 y_M_isRest := Or.inl tw_868
theorem lk_M_126 : sx_lk "PlaceTimePlansModel" 126 y_M_nextDay := Or.inl tw_876
theorem lk_M_130 : sx_lk "PlaceTimePlansModel" 130 y_M_comesAfter := Or.inl tw_892
theorem lk_M_134 : sx_lk "PlaceTimePlansModel" 134 y_M_keepsOwn := Or.inl tw_884
theorem lk_M_138 : sx_lk "PlaceTimePlansModel" 138 y_M_goesWith := Or.inl tw_888
theorem lk_M_141 : sx_lk "PlaceTimePlansModel" 141 y_M_isUnder := Or.inl tw_896
theorem lk_M_147 : sx_lk "PlaceTimePlansModel" 147 y_M_greatestEnd := Or.inl tw_904
theorem lk_M_153 : sx_lk "PlaceTimePlansModel" 153 y_M_movedSoFar := Or.inl tw_908
theorem lk_M_159 : sx_lk "PlaceTimePlansModel" 159 y_M_lay := Or.inl tw_872
theorem lk_M_163 : sx_lk "PlaceTimePlansModel" 163 y_M_keepsAll := Or.inl tw_880
theorem lk_M_166 : sx_lk "PlaceTimePlansModel" 166 y_M_isBetter := Or.inl tw_900
theorem lk_M_173 : sx_lk "PlaceTimePlansModel" 173 y_M_triesOf := Or.inl tw_860
theorem lk_M_176 : sx_lk "PlaceTimePlansModel" 176 y_M_goesOn := Or.inl tw_864
theorem lk_M_183 : sx_lk "PlaceTimePlansModel" 183 y_M_search := Or.inl tw_856
theorem lk_M_187 : sx_lk "PlaceTimePlansModel" 187 y_M_take := Or.inl tw_912
theorem lk_M_191 : sx_lk "PlaceTimePlansModel" 191 y_M_layPlan := Or.inl tw_932
theorem lk_M_194 : sx_lk "PlaceTimePlansModel" 194 y_M_common := Or.inl tw_944
theorem lk_M_198 : sx_lk "PlaceTimePlansModel" 198 y_M_daysOf := Or.inl tw_959
theorem lk_M_201 : sx_lk "PlaceTimePlansModel" 201 y_M_isLone := Or.inl tw_967
theorem lk_M_207 : sx_lk "PlaceTimePlansModel" 207 y_M_wetEnd := Or.inl tw_994
theorem cd_T_init : sx_cd y_T_init 0 := ⟨tw_16, tw_1, ⟨by decide +kernel, by decide +kernel, by decide +kernel⟩, by decide⟩
theorem im_T_init : Cond.instanceMethod y_T_init.1 ∈ sx_T := tw_15
theorem cd_T_after : sx_cd y_T_after 3 := ⟨tw_373, tw_1, ⟨by decide +kernel, by decide +kernel, by decide +kernel⟩, by decide⟩
theorem im_T_after : Cond.instanceMethod y_T_after.1 ∈ sx_T := tw_371
theorem se_T_after : Cond.selects y_T_after.1.cls y_T_after.1 y_T_after.1 ∈ sx_T := tw_372
theorem cd_T_at : sx_cd y_T_at 2 := ⟨tw_582, tw_1, ⟨by decide +kernel, by decide +kernel, by decide +kernel⟩, by decide⟩
theorem im_T_at : Cond.instanceMethod y_T_at.1 ∈ sx_T := tw_580
theorem se_T_at : Cond.selects y_T_at.1.cls y_T_at.1 y_T_at.1 ∈ sx_T := tw_581
theorem cd_T_bar : sx_cd y_T_bar 3 := ⟨tw_389, tw_1, ⟨by decide +kernel, by decide +kernel, by decide +kernel⟩, by decide⟩
theorem im_T_bar : Cond.instanceMethod y_T_bar.1 ∈ sx_T := tw_387
theorem se_T_bar : Cond.selects y_T_bar.1.cls y_T_bar.1 y_T_bar.1 ∈ sx_T := tw_388
theorem cd_T_bound : sx_cd y_T_bound 0 := ⟨tw_609, tw_1, ⟨by decide +kernel, by decide +kernel, by decide +kernel⟩, by decide⟩
theorem im_T_bound : Cond.instanceMethod y_T_bound.1 ∈ sx_T := tw_607
theorem se_T_bound : Cond.selects y_T_bound.1.cls y_T_bound.1 y_T_bound.1 ∈ sx_T := tw_608
theorem cd_T_canStartLater : sx_cd y_T_canStartLater 2 := ⟨tw_655, tw_1, ⟨by decide +kernel, by decide +kernel, by decide +kernel⟩, by decide⟩
theorem im_T_canStartLater : Cond.instanceMethod y_T_canStartLater.1 ∈ sx_T := tw_654
theorem se_T_canStartLater : Cond.selects y_T_canStartLater.1.cls y_T_canStartLater.1 y_T_canStartLater.1 ∈ sx_T := ps_16
theorem cd_T_commonDivisor : sx_cd y_T_commonDivisor 2 := ⟨tw_595, tw_1, ⟨by decide +kernel, by decide +kernel, by decide +kernel⟩, by decide⟩
theorem st_T_commonDivisor : Cond.static y_T_commonDivisor.1 ∈ sx_T := tw_594
theorem cd_T_count : sx_cd y_T_count 1 := ⟨tw_687, tw_1, ⟨by decide +kernel, by decide +kernel, by decide +kernel⟩, by decide⟩
theorem im_T_count : Cond.instanceMethod y_T_count.1 ∈ sx_T := tw_685
theorem se_T_count : Cond.selects y_T_count.1.cls y_T_count.1 y_T_count.1 ∈ sx_T := tw_686
theorem cd_T_crew : sx_cd y_T_crew 1 := ⟨tw_336, tw_1, ⟨by decide +kernel, by decide +kernel, by decide +kernel⟩, by decide⟩
theorem im_T_crew : Cond.instanceMethod y_T_crew.1 ∈ sx_T := tw_334
theorem se_T_crew : Cond.selects y_T_crew.1.cls y_T_crew.1 y_T_crew.1 ∈ sx_T := tw_335
theorem cd_T_crosses : sx_cd y_T_crosses 2 := ⟨tw_599, tw_1, ⟨by decide +kernel, by decide +kernel, by decide +kernel⟩, by decide⟩
theorem im_T_crosses : Cond.instanceMethod y_T_crosses.1 ∈ sx_T := tw_597
theorem se_T_crosses : Cond.selects y_T_crosses.1.cls y_T_crosses.1 y_T_crosses.1 ∈ sx_T := tw_598
theorem cd_T_forgetPlan : sx_cd y_T_forgetPlan 0 := ⟨tw_350, tw_1, ⟨by decide +kernel, by decide +kernel, by decide +kernel⟩, by decide⟩
theorem im_T_forgetPlan : Cond.instanceMethod y_T_forgetPlan.1 ∈ sx_T := tw_349
theorem se_T_forgetPlan : Cond.selects y_T_forgetPlan.1.cls y_T_forgetPlan.1 y_T_forgetPlan.1 ∈ sx_T := ps_1
theorem cd_T_freeze : sx_cd y_T_freeze 1 := ⟨tw_634, tw_1, ⟨by decide +kernel, by decide +kernel, by decide +kernel⟩, by decide⟩
theorem im_T_freeze : Cond.instanceMethod y_T_freeze.1 ∈ sx_T := tw_632
theorem se_T_freeze : Cond.selects y_T_freeze.1.cls y_T_freeze.1 y_T_freeze.1 ∈ sx_T := tw_633
theorem cd_T_isKind : sx_cd y_T_isKind 1 := ⟨tw_339, tw_1, ⟨by decide +kernel, by decide +kernel, by decide +kernel⟩, by decide⟩
theorem st_T_isKind : Cond.static y_T_isKind.1 ∈ sx_T := tw_338
theorem cd_T_isPlanned : sx_cd y_T_isPlanned 1 := ⟨tw_577, tw_1, ⟨by decide +kernel, by decide +kernel, by decide +kernel⟩, by decide⟩
theorem im_T_isPlanned : Cond.instanceMethod y_T_isPlanned.1 ∈ sx_T := tw_576
theorem se_T_isPlanned : Cond.selects y_T_isPlanned.1.cls y_T_isPlanned.1 y_T_isPlanned.1 ∈ sx_T := ps_15
theorem cd_T_isWithin : sx_cd y_T_isWithin 3 := ⟨tw_342, tw_1, ⟨by decide +kernel, by decide +kernel, by decide +kernel⟩, by decide⟩
theorem st_T_isWithin : Cond.static y_T_isWithin.1 ∈ sx_T := tw_341
theorem cd_T_isWork : sx_cd y_T_isWork 1 := ⟨tw_377, tw_1, ⟨by decide +kernel, by decide +kernel, by decide +kernel⟩, by decide⟩
theorem im_T_isWork : Cond.instanceMethod y_T_isWork.1 ∈ sx_T := tw_376
theorem se_T_isWork : Cond.selects y_T_isWork.1.cls y_T_isWork.1 y_T_isWork.1 ∈ sx_T := ps_2
theorem cd_T_late : sx_cd y_T_late 2 := ⟨tw_630, tw_1, ⟨by decide +kernel, by decide +kernel, by decide +kernel⟩, by decide⟩
theorem im_T_late : Cond.instanceMethod y_T_late.1 ∈ sx_T := tw_628
theorem se_T_late : Cond.selects y_T_late.1.cls y_T_late.1 y_T_late.1 ∈ sx_T := tw_629
theorem cd_T_learned : sx_cd y_T_learned 3 := ⟨tw_418, tw_1, ⟨by decide +kernel, by decide +kernel, by decide +kernel⟩, by decide⟩
theorem im_T_learned : Cond.instanceMethod y_T_learned.1 ∈ sx_T := tw_416
theorem se_T_learned : Cond.selects y_T_learned.1.cls y_T_learned.1 y_T_learned.1 ∈ sx_T := tw_417
theorem cd_T_lone : sx_cd y_T_lone 1 := ⟨tw_618, tw_1, ⟨by decide +kernel, by decide +kernel, by decide +kernel⟩, by decide⟩
theorem im_T_lone : Cond.instanceMethod y_T_lone.1 ∈ sx_T := tw_616
theorem se_T_lone : Cond.selects y_T_lone.1.cls y_T_lone.1 y_T_lone.1 ∈ sx_T := tw_617
theorem cd_T_most : sx_cd y_T_most 2 := ⟨tw_414, tw_1, ⟨by decide +kernel, by decide +kernel, by decide +kernel⟩, by decide⟩
theorem im_T_most : Cond.instanceMethod y_T_most.1 ∈ sx_T := tw_412
theorem se_T_most : Cond.selects y_T_most.1.cls y_T_most.1 y_T_most.1 ∈ sx_T := tw_413
theorem cd_T_moved : sx_cd y_T_moved 1 := ⟨tw_646, tw_1, ⟨by decide +kernel, by decide +kernel, by decide +kernel⟩, by decide⟩
theorem im_T_moved : Cond.instanceMethod y_T_moved.1 ∈ sx_T := tw_644
theorem se_T_moved : Cond.selects y_T_moved.1.cls y_T_moved.1 y_T_moved.1 ∈ sx_T := tw_645
theorem cd_T_odds : sx_cd y_T_odds 4 := ⟨tw_662, tw_1, ⟨by decide +kernel, by decide +kernel, by decide +kernel⟩, by decide⟩
theorem im_T_odds : Cond.instanceMethod y_T_odds.1 ∈ sx_T := tw_660
theorem se_T_odds : Cond.selects y_T_odds.1.cls y_T_odds.1 y_T_odds.1 ∈ sx_T := tw_661
theorem cd_T_passes : sx_cd y_T_passes 4 := ⟨tw_591, tw_1, ⟨by decide +kernel, by decide +kernel, by decide +kernel⟩, by decide⟩
theorem im_T_passes : Cond.instanceMethod y_T_passes.1 ∈ sx_T := tw_589
theorem se_T_passes : Cond.selects y_T_passes.1.cls y_T_passes.1 y_T_passes.1 ∈ sx_T := tw_590
theorem cd_T_proved : sx_cd y_T_proved 0 := ⟨tw_565, tw_1, ⟨by decide +kernel, by decide +kernel, by decide +kernel⟩, by decide⟩
theorem im_T_proved : Cond.instanceMethod y_T_proved.1 ∈ sx_T := tw_563
theorem se_T_proved : Cond.selects y_T_proved.1.cls y_T_proved.1 y_T_proved.1 ∈ sx_T := tw_564
theorem cd_T_replan : sx_cd y_T_replan 1 := ⟨tw_642, tw_1, ⟨by decide +kernel, by decide +kernel, by decide +kernel⟩, by decide⟩
theorem im_T_replan : Cond.instanceMethod y_T_replan.1 ∈ sx_T := tw_640
theorem se_T_replan : Cond.selects y_T_replan.1.cls y_T_replan.1 y_T_replan.1 ∈ sx_T := tw_641
theorem cd_T_rest : sx_cd y_T_rest 1 := ⟨tw_401, tw_1, ⟨by decide +kernel, by decide +kernel, by decide +kernel⟩, by decide⟩
theorem im_T_rest : Cond.instanceMethod y_T_rest.1 ∈ sx_T := tw_399
theorem se_T_rest : Cond.selects y_T_rest.1.cls y_T_rest.1 y_T_rest.1 ∈ sx_T := tw_400
theorem cd_T_run : sx_cd y_T_run 1 := ⟨tw_423, tw_1, ⟨by decide +kernel, by decide +kernel, by decide +kernel⟩, by decide⟩
theorem im_T_run : Cond.instanceMethod y_T_run.1 ∈ sx_T := tw_421
theorem se_T_run : Cond.selects y_T_run.1.cls y_T_run.1 y_T_run.1 ∈ sx_T := tw_422
theorem cd_T_season : sx_cd y_T_season 3 := ⟨tw_385, tw_1, ⟨by decide +kernel, by decide +kernel, by decide +kernel⟩, by decide⟩
theorem im_T_season : Cond.instanceMethod y_T_season.1 ∈ sx_T := tw_383
theorem se_T_season : Cond.selects y_T_season.1.cls y_T_season.1 y_T_season.1 ∈ sx_T := tw_384
theorem cd_T_slack : sx_cd y_T_slack 1 := ⟨tw_650, tw_1, ⟨by decide +kernel, by decide +kernel, by decide +kernel⟩, by decide⟩
theorem im_T_slack : Cond.instanceMethod y_T_slack.1 ∈ sx_T := tw_648
theorem se_T_slack : Cond.selects y_T_slack.1.cls y_T_slack.1 y_T_slack.1 ∈ sx_T := tw_649
theorem cd_T_takeOutcome : sx_cd y_T_takeOutcome 1 := ⟨tw_559, tw_1, ⟨by decide +kernel, by decide +kernel, by decide +kernel⟩, by decide⟩
theorem im_T_takeOutcome : Cond.instanceMethod y_T_takeOutcome.1 ∈ sx_T := tw_558
theorem se_T_takeOutcome : Cond.selects y_T_takeOutcome.1.cls y_T_takeOutcome.1 y_T_takeOutcome.1 ∈ sx_T := ps_14
theorem cd_T_told : sx_cd y_T_told 2 := ⟨tw_573, tw_1, ⟨by decide +kernel, by decide +kernel, by decide +kernel⟩, by decide⟩
theorem im_T_told : Cond.instanceMethod y_T_told.1 ∈ sx_T := tw_571
theorem se_T_told : Cond.selects y_T_told.1.cls y_T_told.1 y_T_told.1 ∈ sx_T := tw_572
theorem cd_T_tried : sx_cd y_T_tried 0 := ⟨tw_569, tw_1, ⟨by decide +kernel, by decide +kernel, by decide +kernel⟩, by decide⟩
theorem im_T_tried : Cond.instanceMethod y_T_tried.1 ∈ sx_T := tw_567
theorem se_T_tried : Cond.selects y_T_tried.1.cls y_T_tried.1 y_T_tried.1 ∈ sx_T := tw_568
theorem cd_T_under : sx_cd y_T_under 2 := ⟨tw_605, tw_1, ⟨by decide +kernel, by decide +kernel, by decide +kernel⟩, by decide⟩
theorem im_T_under : Cond.instanceMethod y_T_under.1 ∈ sx_T := tw_603
theorem se_T_under : Cond.selects y_T_under.1.cls y_T_under.1 y_T_under.1 ∈ sx_T := tw_604
theorem cd_T_work : sx_cd y_T_work 5 := ⟨tw_354, tw_1, ⟨by decide +kernel, by decide +kernel, by decide +kernel⟩, by decide⟩
theorem im_T_work : Cond.instanceMethod y_T_work.1 ∈ sx_T := tw_352
theorem se_T_work : Cond.selects y_T_work.1.cls y_T_work.1 y_T_work.1 ∈ sx_T := tw_353
theorem cd_D_init : sx_cd y_D_init 0 := ⟨tw_30, tw_3, ⟨by decide +kernel, by decide +kernel, by decide +kernel⟩, by decide⟩
theorem im_D_init : Cond.instanceMethod y_D_init.1 ∈ sx_T := tw_29
theorem cd_D_before : sx_cd y_D_before 1 := ⟨tw_443, tw_3, ⟨by decide +kernel, by decide +kernel, by decide +kernel⟩, by decide⟩
theorem im_D_before : Cond.instanceMethod y_D_before.1 ∈ sx_T := tw_441
theorem se_D_before : Cond.selects y_D_before.1.cls y_D_before.1 y_D_before.1 ∈ sx_T := tw_442
theorem cd_D_countWorkingDays : sx_cd y_D_countWorkingDays 0 := ⟨tw_35, tw_3, ⟨by decide +kernel, by decide +kernel, by decide +kernel⟩, by decide⟩
theorem im_D_countWorkingDays : Cond.instanceMethod y_D_countWorkingDays.1 ∈ sx_T := tw_34
theorem se_D_countWorkingDays : Cond.selects y_D_countWorkingDays.1.cls y_D_countWorkingDays.1 y_D_countWorkingDays.1 ∈ sx_T := ps_0
theorem cd_D_dayOf : sx_cd y_D_dayOf 1 := ⟨tw_497, tw_3, ⟨by decide +kernel, by decide +kernel, by decide +kernel⟩, by decide⟩
theorem im_D_dayOf : Cond.instanceMethod y_D_dayOf.1 ∈ sx_T := tw_495
theorem se_D_dayOf : Cond.selects y_D_dayOf.1.cls y_D_dayOf.1 y_D_dayOf.1 ∈ sx_T := tw_496
theorem cd_D_giveRest : sx_cd y_D_giveRest 1 := ⟨tw_409, tw_3, ⟨by decide +kernel, by decide +kernel, by decide +kernel⟩, by decide⟩
theorem im_D_giveRest : Cond.instanceMethod y_D_giveRest.1 ∈ sx_T := tw_407
theorem se_D_giveRest : Cond.selects y_D_giveRest.1.cls y_D_giveRest.1 y_D_giveRest.1 ∈ sx_T := tw_408
theorem cd_D_isWorking : sx_cd y_D_isWorking 1 := ⟨tw_405, tw_3, ⟨by decide +kernel, by decide +kernel, by decide +kernel⟩, by decide⟩
theorem im_D_isWorking : Cond.instanceMethod y_D_isWorking.1 ∈ sx_T := tw_403
theorem se_D_isWorking : Cond.selects y_D_isWorking.1.cls y_D_isWorking.1 y_D_isWorking.1 ∈ sx_T := tw_404
theorem cd_L_init : sx_cd y_L_init 0 := ⟨tw_24, tw_2, ⟨by decide +kernel, by decide +kernel, by decide +kernel⟩, by decide⟩
theorem im_L_init : Cond.instanceMethod y_L_init.1 ∈ sx_T := tw_23
theorem cd_L_addBar : sx_cd y_L_addBar 3 := ⟨tw_397, tw_2, ⟨by decide +kernel, by decide +kernel, by decide +kernel⟩, by decide⟩
theorem im_L_addBar : Cond.instanceMethod y_L_addBar.1 ∈ sx_T := tw_395
theorem se_L_addBar : Cond.selects y_L_addBar.1.cls y_L_addBar.1 y_L_addBar.1 ∈ sx_T := tw_396
theorem cd_L_addCrew : sx_cd y_L_addCrew 1 := ⟨tw_346, tw_2, ⟨by decide +kernel, by decide +kernel, by decide +kernel⟩, by decide⟩
theorem im_L_addCrew : Cond.instanceMethod y_L_addCrew.1 ∈ sx_T := tw_344
theorem se_L_addCrew : Cond.selects y_L_addCrew.1.cls y_L_addCrew.1 y_L_addCrew.1 ∈ sx_T := tw_345
theorem cd_L_addWork : sx_cd y_L_addWork 5 := ⟨tw_358, tw_2, ⟨by decide +kernel, by decide +kernel, by decide +kernel⟩, by decide⟩
theorem im_L_addWork : Cond.instanceMethod y_L_addWork.1 ∈ sx_T := tw_356
theorem se_L_addWork : Cond.selects y_L_addWork.1.cls y_L_addWork.1 y_L_addWork.1 ∈ sx_T := tw_357
theorem cd_L_daysOfCrew : sx_cd y_L_daysOfCrew 1 := ⟨tw_613, tw_2, ⟨by decide +kernel, by decide +kernel, by decide +kernel⟩, by decide⟩
theorem im_L_daysOfCrew : Cond.instanceMethod y_L_daysOfCrew.1 ∈ sx_T := tw_611
theorem se_L_daysOfCrew : Cond.selects y_L_daysOfCrew.1.cls y_L_daysOfCrew.1 y_L_daysOfCrew.1 ∈ sx_T := tw_612
theorem cd_L_endOf : sx_cd y_L_endOf 2 := ⟨tw_514, tw_2, ⟨by decide +kernel, by decide +kernel, by decide +kernel⟩, by decide⟩
theorem im_L_endOf : Cond.instanceMethod y_L_endOf.1 ∈ sx_T := tw_512
theorem se_L_endOf : Cond.selects y_L_endOf.1.cls y_L_endOf.1 y_L_endOf.1 ∈ sx_T := tw_513
theorem cd_L_firstShared : sx_cd y_L_firstShared 2 := ⟨tw_485, tw_2, ⟨by decide +kernel, by decide +kernel, by decide +kernel⟩, by decide⟩
theorem im_L_firstShared : Cond.instanceMethod y_L_firstShared.1 ∈ sx_T := tw_483
theorem se_L_firstShared : Cond.selects y_L_firstShared.1.cls y_L_firstShared.1 y_L_firstShared.1 ∈ sx_T := tw_484
theorem cd_L_frozenWorks : sx_cd y_L_frozenWorks 0 := ⟨tw_638, tw_2, ⟨by decide +kernel, by decide +kernel, by decide +kernel⟩, by decide⟩
theorem im_L_frozenWorks : Cond.instanceMethod y_L_frozenWorks.1 ∈ sx_T := tw_636
theorem se_L_frozenWorks : Cond.selects y_L_frozenWorks.1.cls y_L_frozenWorks.1 y_L_frozenWorks.1 ∈ sx_T := tw_637
theorem cd_L_gapBetween : sx_cd y_L_gapBetween 2 := ⟨tw_476, tw_2, ⟨by decide +kernel, by decide +kernel, by decide +kernel⟩, by decide⟩
theorem im_L_gapBetween : Cond.instanceMethod y_L_gapBetween.1 ∈ sx_T := tw_474
theorem se_L_gapBetween : Cond.selects y_L_gapBetween.1.cls y_L_gapBetween.1 y_L_gapBetween.1 ∈ sx_T := tw_475
theorem cd_L_lastShared : sx_cd y_L_lastShared 2 := ⟨tw_480, tw_2, ⟨by decide +kernel, by decide +kernel, by decide +kernel⟩, by decide⟩
theorem im_L_lastShared : Cond.instanceMethod y_L_lastShared.1 ∈ sx_T := tw_478
theorem se_L_lastShared : Cond.selects y_L_lastShared.1.cls y_L_lastShared.1 y_L_lastShared.1 ∈ sx_T := tw_479
theorem cd_L_passTime : sx_cd y_L_passTime 4 := ⟨tw_490, tw_2, ⟨by decide +kernel, by decide +kernel, by decide +kernel⟩, by decide⟩
theorem im_L_passTime : Cond.instanceMethod y_L_passTime.1 ∈ sx_T := tw_488
theorem se_L_passTime : Cond.selects y_L_passTime.1.cls y_L_passTime.1 y_L_passTime.1 ∈ sx_T := tw_489
theorem cd_L_placeOn : sx_cd y_L_placeOn 3 := ⟨tw_586, tw_2, ⟨by decide +kernel, by decide +kernel, by decide +kernel⟩, by decide⟩
theorem im_L_placeOn : Cond.instanceMethod y_L_placeOn.1 ∈ sx_T := tw_584
theorem se_L_placeOn : Cond.selects y_L_placeOn.1.cls y_L_placeOn.1 y_L_placeOn.1 ∈ sx_T := tw_585
theorem cd_L_setGap : sx_cd y_L_setGap 3 := ⟨tw_381, tw_2, ⟨by decide +kernel, by decide +kernel, by decide +kernel⟩, by decide⟩
theorem im_L_setGap : Cond.instanceMethod y_L_setGap.1 ∈ sx_T := tw_379
theorem se_L_setGap : Cond.selects y_L_setGap.1.cls y_L_setGap.1 y_L_setGap.1 ∈ sx_T := tw_380
theorem cd_P_init : sx_cd y_P_init 0 := ⟨tw_198, tw_7, ⟨by decide +kernel, by decide +kernel, by decide +kernel⟩, by decide⟩
theorem im_P_init : Cond.instanceMethod y_P_init.1 ∈ sx_T := tw_197
theorem cd_P_isElsewhere : sx_cd y_P_isElsewhere 3 := ⟨tw_523, tw_7, ⟨by decide +kernel, by decide +kernel, by decide +kernel⟩, by decide⟩
theorem im_P_isElsewhere : Cond.instanceMethod y_P_isElsewhere.1 ∈ sx_T := tw_521
theorem se_P_isElsewhere : Cond.selects y_P_isElsewhere.1.cls y_P_isElsewhere.1 y_P_isElsewhere.1 ∈ sx_T := tw_522
theorem cd_P_put : sx_cd y_P_put 3 := ⟨tw_551, tw_7, ⟨by decide +kernel, by decide +kernel, by decide +kernel⟩, by decide⟩
theorem im_P_put : Cond.instanceMethod y_P_put.1 ∈ sx_T := tw_549
theorem se_P_put : Cond.selects y_P_put.1.cls y_P_put.1 y_P_put.1 ∈ sx_T := tw_550
theorem cd_R_init : sx_cd y_R_init 1 := ⟨tw_169, tw_5, ⟨by decide +kernel, by decide +kernel, by decide +kernel⟩, by decide⟩
theorem im_R_init : Cond.instanceMethod y_R_init.1 ∈ sx_T := tw_168
theorem cd_R_canStandAlone : sx_cd y_R_canStandAlone 1 := ⟨tw_622, tw_5, ⟨by decide +kernel, by decide +kernel, by decide +kernel⟩, by decide⟩
theorem im_R_canStandAlone : Cond.instanceMethod y_R_canStandAlone.1 ∈ sx_T := tw_620
theorem se_R_canStandAlone : Cond.selects y_R_canStandAlone.1.cls y_R_canStandAlone.1 y_R_canStandAlone.1 ∈ sx_T := tw_621
theorem cd_R_firstStart : sx_cd y_R_firstStart 4 := ⟨tw_461, tw_5, ⟨by decide +kernel, by decide +kernel, by decide +kernel⟩, by decide⟩
theorem im_R_firstStart : Cond.instanceMethod y_R_firstStart.1 ∈ sx_T := tw_460
theorem se_R_firstStart : Cond.selects y_R_firstStart.1.cls y_R_firstStart.1 y_R_firstStart.1 ∈ sx_T := ps_5
theorem cd_R_hasRoom : sx_cd y_R_hasRoom 4 := ⟨tw_542, tw_5, ⟨by decide +kernel, by decide +kernel, by decide +kernel⟩, by decide⟩
theorem im_R_hasRoom : Cond.instanceMethod y_R_hasRoom.1 ∈ sx_T := tw_540
theorem se_R_hasRoom : Cond.selects y_R_hasRoom.1.cls y_R_hasRoom.1 y_R_hasRoom.1 ∈ sx_T := tw_541
theorem cd_R_isCrowded : sx_cd y_R_isCrowded 4 := ⟨tw_546, tw_5, ⟨by decide +kernel, by decide +kernel, by decide +kernel⟩, by decide⟩
theorem im_R_isCrowded : Cond.instanceMethod y_R_isCrowded.1 ∈ sx_T := tw_545
theorem se_R_isCrowded : Cond.selects y_R_isCrowded.1.cls y_R_isCrowded.1 y_R_isCrowded.1 ∈ sx_T := ps_12
theorem cd_R_keepGaps : sx_cd y_R_keepGaps 5 := ⟨tw_472, tw_5, ⟨by decide +kernel, by decide +kernel, by decide +kernel⟩, by decide⟩
theorem im_R_keepGaps : Cond.instanceMethod y_R_keepGaps.1 ∈ sx_T := tw_471
theorem se_R_keepGaps : Cond.selects y_R_keepGaps.1.cls y_R_keepGaps.1 y_R_keepGaps.1 ∈ sx_T := ps_6
theorem cd_R_lastStart : sx_cd y_R_lastStart 4 := ⟨tw_501, tw_5, ⟨by decide +kernel, by decide +kernel, by decide +kernel⟩, by decide⟩
theorem im_R_lastStart : Cond.instanceMethod y_R_lastStart.1 ∈ sx_T := tw_500
theorem se_R_lastStart : Cond.selects y_R_lastStart.1.cls y_R_lastStart.1 y_R_lastStart.1 ∈ sx_T := ps_7
theorem cd_R_open : sx_cd y_R_open 5 := ⟨tw_435, tw_5, ⟨by decide +kernel, by decide +kernel, by decide +kernel⟩, by decide⟩
theorem im_R_open : Cond.instanceMethod y_R_open.1 ∈ sx_T := tw_433
theorem se_R_open : Cond.selects y_R_open.1.cls y_R_open.1 y_R_open.1 ∈ sx_T := tw_434
theorem cd_R_openAlone : sx_cd y_R_openAlone 3 := ⟨tw_439, tw_5, ⟨by decide +kernel, by decide +kernel, by decide +kernel⟩, by decide⟩
theorem im_R_openAlone : Cond.instanceMethod y_R_openAlone.1 ∈ sx_T := tw_438
theorem se_R_openAlone : Cond.selects y_R_openAlone.1.cls y_R_openAlone.1 y_R_openAlone.1 ∈ sx_T := ps_4
theorem cd_S_init : sx_cd y_S_init 3 := ⟨tw_219, tw_8, ⟨by decide +kernel, by decide +kernel, by decide +kernel⟩, by decide⟩
theorem im_S_init : Cond.instanceMethod y_S_init.1 ∈ sx_T := tw_218
theorem cd_S_isBetter : sx_cd y_S_isBetter 2 := ⟨tw_528, tw_8, ⟨by decide +kernel, by decide +kernel, by decide +kernel⟩, by decide⟩
theorem im_S_isBetter : Cond.instanceMethod y_S_isBetter.1 ∈ sx_T := tw_527
theorem se_S_isBetter : Cond.selects y_S_isBetter.1.cls y_S_isBetter.1 y_S_isBetter.1 ∈ sx_T := ps_10
theorem cd_S_isMove : sx_cd y_S_isMove 3 := ⟨tw_519, tw_8, ⟨by decide +kernel, by decide +kernel, by decide +kernel⟩, by decide⟩
theorem im_S_isMove : Cond.instanceMethod y_S_isMove.1 ∈ sx_T := tw_518
theorem se_S_isMove : Cond.selects y_S_isMove.1.cls y_S_isMove.1 y_S_isMove.1 ∈ sx_T := ps_9
theorem cd_S_keepAsBest : sx_cd y_S_keepAsBest 1 := ⟨tw_555, tw_8, ⟨by decide +kernel, by decide +kernel, by decide +kernel⟩, by decide⟩
theorem im_S_keepAsBest : Cond.instanceMethod y_S_keepAsBest.1 ∈ sx_T := tw_554
theorem se_S_keepAsBest : Cond.selects y_S_keepAsBest.1.cls y_S_keepAsBest.1 y_S_keepAsBest.1 ∈ sx_T := ps_13
theorem cd_S_keepsRules : sx_cd y_S_keepsRules 3 := ⟨tw_532, tw_8, ⟨by decide +kernel, by decide +kernel, by decide +kernel⟩, by decide⟩
theorem im_S_keepsRules : Cond.instanceMethod y_S_keepsRules.1 ∈ sx_T := tw_531
theorem se_S_keepsRules : Cond.selects y_S_keepsRules.1.cls y_S_keepsRules.1 y_S_keepsRules.1 ∈ sx_T := ps_11
theorem cd_S_seek : sx_cd y_S_seek 2 := ⟨tw_427, tw_8, ⟨by decide +kernel, by decide +kernel, by decide +kernel⟩, by decide⟩
theorem im_S_seek : Cond.instanceMethod y_S_seek.1 ∈ sx_T := tw_425
theorem se_S_seek : Cond.selects y_S_seek.1.cls y_S_seek.1 y_S_seek.1 ∈ sx_T := tw_426
theorem cd_S_tryOne : sx_cd y_S_tryOne 3 := ⟨tw_510, tw_8, ⟨by decide +kernel, by decide +kernel, by decide +kernel⟩, by decide⟩
theorem im_S_tryOne : Cond.instanceMethod y_S_tryOne.1 ∈ sx_T := tw_509
theorem se_S_tryOne : Cond.selects y_S_tryOne.1.cls y_S_tryOne.1 y_S_tryOne.1 ∈ sx_T := ps_8
theorem cd_S_tryStarts : sx_cd y_S_tryStarts 1 := ⟨tw_431, tw_8, ⟨by decide +kernel, by decide +kernel, by decide +kernel⟩, by decide⟩
theorem im_S_tryStarts : Cond.instanceMethod y_S_tryStarts.1 ∈ sx_T := tw_430
theorem se_S_tryStarts : Cond.selects y_S_tryStarts.1.cls y_S_tryStarts.1 y_S_tryStarts.1 ∈ sx_T := ps_3
theorem cd_H_init : sx_cd y_H_init 2 := ⟨tw_284, tw_9, ⟨by decide +kernel, by decide +kernel, by decide +kernel⟩, by decide⟩
theorem im_H_init : Cond.instanceMethod y_H_init.1 ∈ sx_T := tw_283
theorem cd_H_begin : sx_cd y_H_begin 1 := ⟨tw_666, tw_9, ⟨by decide +kernel, by decide +kernel, by decide +kernel⟩, by decide⟩
theorem im_H_begin : Cond.instanceMethod y_H_begin.1 ∈ sx_T := tw_664
theorem se_H_begin : Cond.selects y_H_begin.1.cls y_H_begin.1 y_H_begin.1 ∈ sx_T := tw_665
theorem cd_H_drawEnd : sx_cd y_H_drawEnd 1 := ⟨tw_670, tw_9, ⟨by decide +kernel, by decide +kernel, by decide +kernel⟩, by decide⟩
theorem im_H_drawEnd : Cond.instanceMethod y_H_drawEnd.1 ∈ sx_T := tw_668
theorem se_H_drawEnd : Cond.selects y_H_drawEnd.1.cls y_H_drawEnd.1 y_H_drawEnd.1 ∈ sx_T := tw_669
theorem cd_H_drawWet : sx_cd y_H_drawWet 1 := ⟨tw_674, tw_9, ⟨by decide +kernel, by decide +kernel, by decide +kernel⟩, by decide⟩
theorem im_H_drawWet : Cond.instanceMethod y_H_drawWet.1 ∈ sx_T := tw_673
theorem se_H_drawWet : Cond.selects y_H_drawWet.1.cls y_H_drawWet.1 y_H_drawWet.1 ∈ sx_T := ps_17
theorem cd_H_goOn : sx_cd y_H_goOn 1 := ⟨tw_682, tw_9, ⟨by decide +kernel, by decide +kernel, by decide +kernel⟩, by decide⟩
theorem im_H_goOn : Cond.instanceMethod y_H_goOn.1 ∈ sx_T := tw_681
theorem se_H_goOn : Cond.selects y_H_goOn.1.cls y_H_goOn.1 y_H_goOn.1 ∈ sx_T := ps_18
theorem cd_W_init : sx_cd y_W_init 0 := ⟨tw_175, tw_6, ⟨by decide +kernel, by decide +kernel, by decide +kernel⟩, by decide⟩
theorem im_W_init : Cond.instanceMethod y_W_init.1 ∈ sx_T := tw_174
theorem cd_W_holds : sx_cd y_W_holds 1 := ⟨tw_538, tw_6, ⟨by decide +kernel, by decide +kernel, by decide +kernel⟩, by decide⟩
theorem im_W_holds : Cond.instanceMethod y_W_holds.1 ∈ sx_T := tw_536
theorem se_W_holds : Cond.selects y_W_holds.1.cls y_W_holds.1 y_W_holds.1 ∈ sx_T := tw_537
theorem cd_W_isEmpty : sx_cd y_W_isEmpty 0 := ⟨tw_626, tw_6, ⟨by decide +kernel, by decide +kernel, by decide +kernel⟩, by decide⟩
theorem im_W_isEmpty : Cond.instanceMethod y_W_isEmpty.1 ∈ sx_T := tw_624
theorem se_W_isEmpty : Cond.selects y_W_isEmpty.1.cls y_W_isEmpty.1 y_W_isEmpty.1 ∈ sx_T := tw_625
theorem cd_W_lowerGreatest : sx_cd y_W_lowerGreatest 1 := ⟨tw_505, tw_6, ⟨by decide +kernel, by decide +kernel, by decide +kernel⟩, by decide⟩
theorem im_W_lowerGreatest : Cond.instanceMethod y_W_lowerGreatest.1 ∈ sx_T := tw_503
theorem se_W_lowerGreatest : Cond.selects y_W_lowerGreatest.1.cls y_W_lowerGreatest.1 y_W_lowerGreatest.1 ∈ sx_T := tw_504
theorem cd_W_raiseLeast : sx_cd y_W_raiseLeast 1 := ⟨tw_452, tw_6, ⟨by decide +kernel, by decide +kernel, by decide +kernel⟩, by decide⟩
theorem im_W_raiseLeast : Cond.instanceMethod y_W_raiseLeast.1 ∈ sx_T := tw_450
theorem se_W_raiseLeast : Cond.selects y_W_raiseLeast.1.cls y_W_raiseLeast.1 y_W_raiseLeast.1 ∈ sx_T := tw_451
theorem cd_W_set : sx_cd y_W_set 2 := ⟨tw_448, tw_6, ⟨by decide +kernel, by decide +kernel, by decide +kernel⟩, by decide⟩
theorem im_W_set : Cond.instanceMethod y_W_set.1 ∈ sx_T := tw_446
theorem se_W_set : Cond.selects y_W_set.1.cls y_W_set.1 y_W_set.1 ∈ sx_T := tw_447
theorem cd_K_init : sx_cd y_K_init 0 := ⟨tw_57, tw_4, ⟨by decide +kernel, by decide +kernel, by decide +kernel⟩, by decide⟩
theorem im_K_init : Cond.instanceMethod y_K_init.1 ∈ sx_T := tw_56
theorem cd_K_comesTo : sx_cd y_K_comesTo 1 := ⟨tw_393, tw_4, ⟨by decide +kernel, by decide +kernel, by decide +kernel⟩, by decide⟩
theorem im_K_comesTo : Cond.instanceMethod y_K_comesTo.1 ∈ sx_T := tw_391
theorem se_K_comesTo : Cond.selects y_K_comesTo.1.cls y_K_comesTo.1 y_K_comesTo.1 ∈ sx_T := tw_392
theorem cd_K_setSpeed : sx_cd y_K_setSpeed 1 := ⟨tw_363, tw_4, ⟨by decide +kernel, by decide +kernel, by decide +kernel⟩, by decide⟩
theorem im_K_setSpeed : Cond.instanceMethod y_K_setSpeed.1 ∈ sx_T := tw_361
theorem se_K_setSpeed : Cond.selects y_K_setSpeed.1.cls y_K_setSpeed.1 y_K_setSpeed.1 ∈ sx_T := tw_362
theorem cd_K_wayTo : sx_cd y_K_wayTo 2 := ⟨tw_457, tw_4, ⟨by decide +kernel, by decide +kernel, by decide +kernel⟩, by decide⟩
theorem im_K_wayTo : Cond.instanceMethod y_K_wayTo.1 ∈ sx_T := tw_455
theorem se_K_wayTo : Cond.selects y_K_wayTo.1.cls y_K_wayTo.1 y_K_wayTo.1 ∈ sx_T := tw_456
theorem cd_K_wholeDays : sx_cd y_K_wholeDays 2 := ⟨tw_465, tw_4, ⟨by decide +kernel, by decide +kernel, by decide +kernel⟩, by decide⟩
theorem im_K_wholeDays : Cond.instanceMethod y_K_wholeDays.1 ∈ sx_T := tw_463
theorem se_K_wholeDays : Cond.selects y_K_wholeDays.1.cls y_K_wholeDays.1 y_K_wholeDays.1 ∈ sx_T := tw_464
theorem cd_M_init : sx_cd y_M_init 0 := ⟨tw_692, tw_10, ⟨by decide +kernel, by decide +kernel, by decide +kernel⟩, by decide⟩
theorem im_M_init : Cond.instanceMethod y_M_init.1 ∈ sx_T := tw_691
theorem cd_M_after : sx_cd y_M_after 3 := ⟨tw_827, tw_10, ⟨by decide +kernel, by decide +kernel, by decide +kernel⟩, by decide⟩
theorem im_M_after : Cond.instanceMethod y_M_after.1 ∈ sx_T := tw_825
theorem se_M_after : Cond.selects y_M_after.1.cls y_M_after.1 y_M_after.1 ∈ sx_T := tw_826
theorem cd_M_at : sx_cd y_M_at 2 := ⟨tw_939, tw_10, ⟨by decide +kernel, by decide +kernel, by decide +kernel⟩, by decide⟩
theorem im_M_at : Cond.instanceMethod y_M_at.1 ∈ sx_T := tw_937
theorem se_M_at : Cond.selects y_M_at.1.cls y_M_at.1 y_M_at.1 ∈ sx_T := tw_938
theorem cd_M_bar : sx_cd y_M_bar 3 := ⟨tw_839, tw_10, ⟨by decide +kernel, by decide +kernel, by decide +kernel⟩, by decide⟩
theorem im_M_bar : Cond.instanceMethod y_M_bar.1 ∈ sx_T := tw_837
theorem se_M_bar : Cond.selects y_M_bar.1.cls y_M_bar.1 y_M_bar.1 ∈ sx_T := tw_838
theorem cd_M_bound : sx_cd y_M_bound 0 := ⟨tw_958, tw_10, ⟨by decide +kernel, by decide +kernel, by decide +kernel⟩, by decide⟩
theorem im_M_bound : Cond.instanceMethod y_M_bound.1 ∈ sx_T := tw_956
theorem se_M_bound : Cond.selects y_M_bound.1.cls y_M_bound.1 y_M_bound.1 ∈ sx_T := tw_957
theorem cd_M_changed : sx_cd y_M_changed 0 := ⟨tw_819, tw_10, ⟨by decide +kernel, by decide +kernel, by decide +kernel⟩, by decide⟩
theorem im_M_changed : Cond.instanceMethod y_M_changed.1 ∈ sx_T := tw_818
theorem se_M_changed : Cond.selects y_M_changed.1.cls y_M_changed.1 y_M_changed.1 ∈ sx_T := ps_19
theorem cd_M_comesAfter : sx_cd y_M_comesAfter 4 := ⟨tw_895, tw_10, ⟨by decide +kernel, by decide +kernel, by decide +kernel⟩, by decide⟩
theorem im_M_comesAfter : Cond.instanceMethod y_M_comesAfter.1 ∈ sx_T := tw_894
theorem se_M_comesAfter : Cond.selects y_M_comesAfter.1.cls y_M_comesAfter.1 y_M_comesAfter.1 ∈ sx_T := ps_30
theorem cd_M_common : sx_cd y_M_common 2 := ⟨tw_946, tw_10, ⟨by decide +kernel, by decide +kernel, by decide +kernel⟩, by decide⟩
theorem st_M_common : Cond.static y_M_common.1 ∈ sx_T := tw_945
theorem cd_M_count : sx_cd y_M_count 1 := ⟨tw_1001, tw_10, ⟨by decide +kernel, by decide +kernel, by decide +kernel⟩, by decide⟩
theorem im_M_count : Cond.instanceMethod y_M_count.1 ∈ sx_T := tw_999
theorem se_M_count : Cond.selects y_M_count.1.cls y_M_count.1 y_M_count.1 ∈ sx_T := tw_1000
theorem cd_M_crew : sx_cd y_M_crew 1 := ⟨tw_812, tw_10, ⟨by decide +kernel, by decide +kernel, by decide +kernel⟩, by decide⟩
theorem im_M_crew : Cond.instanceMethod y_M_crew.1 ∈ sx_T := tw_810
theorem se_M_crew : Cond.selects y_M_crew.1.cls y_M_crew.1 y_M_crew.1 ∈ sx_T := tw_811
theorem cd_M_crosses : sx_cd y_M_crosses 2 := ⟨tw_950, tw_10, ⟨by decide +kernel, by decide +kernel, by decide +kernel⟩, by decide⟩
theorem im_M_crosses : Cond.instanceMethod y_M_crosses.1 ∈ sx_T := tw_948
theorem se_M_crosses : Cond.selects y_M_crosses.1.cls y_M_crosses.1 y_M_crosses.1 ∈ sx_T := tw_949
theorem cd_M_daysOf : sx_cd y_M_daysOf 1 := ⟨tw_962, tw_10, ⟨by decide +kernel, by decide +kernel, by decide +kernel⟩, by decide⟩
theorem im_M_daysOf : Cond.instanceMethod y_M_daysOf.1 ∈ sx_T := tw_961
theorem se_M_daysOf : Cond.selects y_M_daysOf.1.cls y_M_daysOf.1 y_M_daysOf.1 ∈ sx_T := ps_37
theorem cd_M_freeze : sx_cd y_M_freeze 1 := ⟨tw_978, tw_10, ⟨by decide +kernel, by decide +kernel, by decide +kernel⟩, by decide⟩
theorem im_M_freeze : Cond.instanceMethod y_M_freeze.1 ∈ sx_T := tw_976
theorem se_M_freeze : Cond.selects y_M_freeze.1.cls y_M_freeze.1 y_M_freeze.1 ∈ sx_T := tw_977
theorem cd_M_goesOn : sx_cd y_M_goesOn 3 := ⟨tw_867, tw_10, ⟨by decide +kernel, by decide +kernel, by decide +kernel⟩, by decide⟩
theorem im_M_goesOn : Cond.instanceMethod y_M_goesOn.1 ∈ sx_T := tw_866
theorem se_M_goesOn : Cond.selects y_M_goesOn.1.cls y_M_goesOn.1 y_M_goesOn.1 ∈ sx_T := ps_23
theorem cd_M_goesWith : sx_cd y_M_goesWith 4 := ⟨tw_891, tw_10, ⟨by decide +kernel, by decide +kernel, by decide +kernel⟩, by decide⟩
theorem im_M_goesWith : Cond.instanceMethod y_M_goesWith.1 ∈ sx_T := tw_890
theorem se_M_goesWith : Cond.selects y_M_goesWith.1.cls y_M_goesWith.1 y_M_goesWith.1 ∈ sx_T := ps_29
theorem cd_M_greatestEnd : sx_cd y_M_greatestEnd 1 := ⟨tw_907, tw_10, ⟨by decide +kernel, by decide +kernel, by decide +kernel⟩, by decide⟩
theorem im_M_greatestEnd : Cond.instanceMethod y_M_greatestEnd.1 ∈ sx_T := tw_906
theorem se_M_greatestEnd : Cond.selects y_M_greatestEnd.1.cls y_M_greatestEnd.1 y_M_greatestEnd.1 ∈ sx_T := ps_33
theorem cd_M_isBetter : sx_cd y_M_isBetter 2 := ⟨tw_903, tw_10, ⟨by decide +kernel, by decide +kernel, by decide +kernel⟩, by decide⟩
theorem im_M_isBetter : Cond.instanceMethod y_M_isBetter.1 ∈ sx_T := tw_902
theorem se_M_isBetter : Cond.selects y_M_isBetter.1.cls y_M_isBetter.1 y_M_isBetter.1 ∈ sx_T := ps_32
theorem cd_M_isLone : sx_cd y_M_isLone 1 := ⟨tw_970, tw_10, ⟨by decide +kernel, by decide +kernel, by decide +kernel⟩, by decide⟩
theorem im_M_isLone : Cond.instanceMethod y_M_isLone.1 ∈ sx_T := tw_969
theorem se_M_isLone : Cond.selects y_M_isLone.1.cls y_M_isLone.1 y_M_isLone.1 ∈ sx_T := ps_38
theorem cd_M_isRest : sx_cd y_M_isRest 1 := ⟨tw_871, tw_10, ⟨by decide +kernel, by decide +kernel, by decide +kernel⟩, by decide⟩
theorem im_M_isRest : Cond.instanceMethod y_M_isRest.1 ∈ sx_T := tw_870
theorem se_M_isRest : Cond.selects y_M_isRest.1.cls y_M_isRest.1 y_M_isRest.1 ∈ sx_T := ps_24
theorem cd_M_isUnder : sx_cd y_M_isUnder 2 := ⟨tw_899, tw_10, ⟨by decide +kernel, by decide +kernel, by decide +kernel⟩, by decide⟩
theorem im_M_isUnder : Cond.instanceMethod y_M_isUnder.1 ∈ sx_T := tw_898
theorem se_M_isUnder : Cond.selects y_M_isUnder.1.cls y_M_isUnder.1 y_M_isUnder.1 ∈ sx_T := ps_31
theorem cd_M_isWork : sx_cd y_M_isWork 1 := ⟨tw_831, tw_10, ⟨by decide +kernel, by decide +kernel, by decide +kernel⟩, by decide⟩
theorem im_M_isWork : Cond.instanceMethod y_M_isWork.1 ∈ sx_T := tw_830
theorem se_M_isWork : Cond.selects y_M_isWork.1.cls y_M_isWork.1 y_M_isWork.1 ∈ sx_T := ps_20
theorem cd_M_keepsAll : sx_cd y_M_keepsAll 3 := ⟨tw_883, tw_10, ⟨by decide +kernel, by decide +kernel, by decide +kernel⟩, by decide⟩
theorem im_M_keepsAll : Cond.instanceMethod y_M_keepsAll.1 ∈ sx_T := tw_882
theorem se_M_keepsAll : Cond.selects y_M_keepsAll.1.cls y_M_keepsAll.1 y_M_keepsAll.1 ∈ sx_T := ps_27
theorem cd_M_keepsOwn : sx_cd y_M_keepsOwn 2 := ⟨tw_887, tw_10, ⟨by decide +kernel, by decide +kernel, by decide +kernel⟩, by decide⟩
theorem im_M_keepsOwn : Cond.instanceMethod y_M_keepsOwn.1 ∈ sx_T := tw_886
theorem se_M_keepsOwn : Cond.selects y_M_keepsOwn.1.cls y_M_keepsOwn.1 y_M_keepsOwn.1 ∈ sx_T := ps_28
theorem cd_M_late : sx_cd y_M_late 2 := ⟨tw_974, tw_10, ⟨by decide +kernel, by decide +kernel, by decide +kernel⟩, by decide⟩
theorem im_M_late : Cond.instanceMethod y_M_late.1 ∈ sx_T := tw_972
theorem se_M_late : Cond.selects y_M_late.1.cls y_M_late.1 y_M_late.1 ∈ sx_T := tw_973
theorem cd_M_lay : sx_cd y_M_lay 4 := ⟨tw_875, tw_10, ⟨by decide +kernel, by decide +kernel, by decide +kernel⟩, by decide⟩
theorem im_M_lay : Cond.instanceMethod y_M_lay.1 ∈ sx_T := tw_874
theorem se_M_lay : Cond.selects y_M_lay.1.cls y_M_lay.1 y_M_lay.1 ∈ sx_T := ps_25
theorem cd_M_layPlan : sx_cd y_M_layPlan 0 := ⟨tw_935, tw_10, ⟨by decide +kernel, by decide +kernel, by decide +kernel⟩, by decide⟩
theorem im_M_layPlan : Cond.instanceMethod y_M_layPlan.1 ∈ sx_T := tw_934
theorem se_M_layPlan : Cond.selects y_M_layPlan.1.cls y_M_layPlan.1 y_M_layPlan.1 ∈ sx_T := ps_36
theorem cd_M_learned : sx_cd y_M_learned 3 := ⟨tw_851, tw_10, ⟨by decide +kernel, by decide +kernel, by decide +kernel⟩, by decide⟩
theorem im_M_learned : Cond.instanceMethod y_M_learned.1 ∈ sx_T := tw_849
theorem se_M_learned : Cond.selects y_M_learned.1.cls y_M_learned.1 y_M_learned.1 ∈ sx_T := tw_850
theorem cd_M_lone : sx_cd y_M_lone 1 := ⟨tw_966, tw_10, ⟨by decide +kernel, by decide +kernel, by decide +kernel⟩, by decide⟩
theorem im_M_lone : Cond.instanceMethod y_M_lone.1 ∈ sx_T := tw_964
theorem se_M_lone : Cond.selects y_M_lone.1.cls y_M_lone.1 y_M_lone.1 ∈ sx_T := tw_965
theorem cd_M_most : sx_cd y_M_most 2 := ⟨tw_847, tw_10, ⟨by decide +kernel, by decide +kernel, by decide +kernel⟩, by decide⟩
theorem im_M_most : Cond.instanceMethod y_M_most.1 ∈ sx_T := tw_845
theorem se_M_most : Cond.selects y_M_most.1.cls y_M_most.1 y_M_most.1 ∈ sx_T := tw_846
theorem cd_M_moved : sx_cd y_M_moved 1 := ⟨tw_982, tw_10, ⟨by decide +kernel, by decide +kernel, by decide +kernel⟩, by decide⟩
theorem im_M_moved : Cond.instanceMethod y_M_moved.1 ∈ sx_T := tw_980
theorem se_M_moved : Cond.selects y_M_moved.1.cls y_M_moved.1 y_M_moved.1 ∈ sx_T := tw_981
theorem cd_M_movedSoFar : sx_cd y_M_movedSoFar 1 := ⟨tw_911, tw_10, ⟨by decide +kernel, by decide +kernel, by decide +kernel⟩, by decide⟩
theorem im_M_movedSoFar : Cond.instanceMethod y_M_movedSoFar.1 ∈ sx_T := tw_910
theorem se_M_movedSoFar : Cond.selects y_M_movedSoFar.1.cls y_M_movedSoFar.1 y_M_movedSoFar.1 ∈ sx_T := ps_34
theorem cd_M_nextDay : sx_cd y_M_nextDay 1 := ⟨tw_879, tw_10, ⟨by decide +kernel, by decide +kernel, by decide +kernel⟩, by decide⟩
theorem im_M_nextDay : Cond.instanceMethod y_M_nextDay.1 ∈ sx_T := tw_878
theorem se_M_nextDay : Cond.selects y_M_nextDay.1.cls y_M_nextDay.1 y_M_nextDay.1 ∈ sx_T := ps_26
theorem cd_M_odds : sx_cd y_M_odds 4 := ⟨tw_990, tw_10, ⟨by decide +kernel, by decide +kernel, by decide +kernel⟩, by decide⟩
theorem im_M_odds : Cond.instanceMethod y_M_odds.1 ∈ sx_T := tw_988
theorem se_M_odds : Cond.selects y_M_odds.1.cls y_M_odds.1 y_M_odds.1 ∈ sx_T := tw_989
theorem cd_M_passes : sx_cd y_M_passes 4 := ⟨tw_943, tw_10, ⟨by decide +kernel, by decide +kernel, by decide +kernel⟩, by decide⟩
theorem im_M_passes : Cond.instanceMethod y_M_passes.1 ∈ sx_T := tw_941
theorem se_M_passes : Cond.selects y_M_passes.1.cls y_M_passes.1 y_M_passes.1 ∈ sx_T := tw_942
theorem cd_M_proved : sx_cd y_M_proved 0 := ⟨tw_923, tw_10, ⟨by decide +kernel, by decide +kernel, by decide +kernel⟩, by decide⟩
theorem im_M_proved : Cond.instanceMethod y_M_proved.1 ∈ sx_T := tw_921
theorem se_M_proved : Cond.selects y_M_proved.1.cls y_M_proved.1 y_M_proved.1 ∈ sx_T := tw_922
theorem cd_M_replan : sx_cd y_M_replan 1 := ⟨tw_919, tw_10, ⟨by decide +kernel, by decide +kernel, by decide +kernel⟩, by decide⟩
theorem im_M_replan : Cond.instanceMethod y_M_replan.1 ∈ sx_T := tw_917
theorem se_M_replan : Cond.selects y_M_replan.1.cls y_M_replan.1 y_M_replan.1 ∈ sx_T := tw_918
theorem cd_M_rest : sx_cd y_M_rest 1 := ⟨tw_843, tw_10, ⟨by decide +kernel, by decide +kernel, by decide +kernel⟩, by decide⟩
theorem im_M_rest : Cond.instanceMethod y_M_rest.1 ∈ sx_T := tw_841
theorem se_M_rest : Cond.selects y_M_rest.1.cls y_M_rest.1 y_M_rest.1 ∈ sx_T := tw_842
theorem cd_M_run : sx_cd y_M_run 1 := ⟨tw_855, tw_10, ⟨by decide +kernel, by decide +kernel, by decide +kernel⟩, by decide⟩
theorem im_M_run : Cond.instanceMethod y_M_run.1 ∈ sx_T := tw_853
theorem se_M_run : Cond.selects y_M_run.1.cls y_M_run.1 y_M_run.1 ∈ sx_T := tw_854
theorem cd_M_search : sx_cd y_M_search 2 := ⟨tw_859, tw_10, ⟨by decide +kernel, by decide +kernel, by decide +kernel⟩, by decide⟩
theorem im_M_search : Cond.instanceMethod y_M_search.1 ∈ sx_T := tw_858
theorem se_M_search : Cond.selects y_M_search.1.cls y_M_search.1 y_M_search.1 ∈ sx_T := ps_21
theorem cd_M_season : sx_cd y_M_season 3 := ⟨tw_835, tw_10, ⟨by decide +kernel, by decide +kernel, by decide +kernel⟩, by decide⟩
theorem im_M_season : Cond.instanceMethod y_M_season.1 ∈ sx_T := tw_833
theorem se_M_season : Cond.selects y_M_season.1.cls y_M_season.1 y_M_season.1 ∈ sx_T := tw_834
theorem cd_M_slack : sx_cd y_M_slack 1 := ⟨tw_986, tw_10, ⟨by decide +kernel, by decide +kernel, by decide +kernel⟩, by decide⟩
theorem im_M_slack : Cond.instanceMethod y_M_slack.1 ∈ sx_T := tw_984
theorem se_M_slack : Cond.selects y_M_slack.1.cls y_M_slack.1 y_M_slack.1 ∈ sx_T := tw_985
theorem cd_M_take : sx_cd y_M_take 1 := ⟨tw_915, tw_10, ⟨by decide +kernel, by decide +kernel, by decide +kernel⟩, by decide⟩
theorem im_M_take : Cond.instanceMethod y_M_take.1 ∈ sx_T := tw_914
theorem se_M_take : Cond.selects y_M_take.1.cls y_M_take.1 y_M_take.1 ∈ sx_T := ps_35
theorem cd_M_told : sx_cd y_M_told 2 := ⟨tw_931, tw_10, ⟨by decide +kernel, by decide +kernel, by decide +kernel⟩, by decide⟩
theorem im_M_told : Cond.instanceMethod y_M_told.1 ∈ sx_T := tw_929
theorem se_M_told : Cond.selects y_M_told.1.cls y_M_told.1 y_M_told.1 ∈ sx_T := tw_930
theorem cd_M_tried : sx_cd y_M_tried 0 := ⟨tw_927, tw_10, ⟨by decide +kernel, by decide +kernel, by decide +kernel⟩, by decide⟩
theorem im_M_tried : Cond.instanceMethod y_M_tried.1 ∈ sx_T := tw_925
theorem se_M_tried : Cond.selects y_M_tried.1.cls y_M_tried.1 y_M_tried.1 ∈ sx_T := tw_926
theorem cd_M_triesOf : sx_cd y_M_triesOf 1 := ⟨tw_863, tw_10, ⟨by decide +kernel, by decide +kernel, by decide +kernel⟩, by decide⟩
theorem im_M_triesOf : Cond.instanceMethod y_M_triesOf.1 ∈ sx_T := tw_862
theorem se_M_triesOf : Cond.selects y_M_triesOf.1.cls y_M_triesOf.1 y_M_triesOf.1 ∈ sx_T := ps_22
theorem cd_M_under : sx_cd y_M_under 2 := ⟨tw_954, tw_10, ⟨by decide +kernel, by decide +kernel, by decide +kernel⟩, by decide⟩
theorem im_M_under : Cond.instanceMethod y_M_under.1 ∈ sx_T := tw_952
theorem se_M_under : Cond.selects y_M_under.1.cls y_M_under.1 y_M_under.1 ∈ sx_T := tw_953
theorem cd_M_wetEnd : sx_cd y_M_wetEnd 1 := ⟨tw_997, tw_10, ⟨by decide +kernel, by decide +kernel, by decide +kernel⟩, by decide⟩
theorem im_M_wetEnd : Cond.instanceMethod y_M_wetEnd.1 ∈ sx_T := tw_996
theorem se_M_wetEnd : Cond.selects y_M_wetEnd.1.cls y_M_wetEnd.1 y_M_wetEnd.1 ∈ sx_T := ps_39
theorem cd_M_within : sx_cd y_M_within 3 := ⟨tw_815, tw_10, ⟨by decide +kernel, by decide +kernel, by decide +kernel⟩, by decide⟩
theorem st_M_within : Cond.static y_M_within.1 ∈ sx_T := tw_814
theorem cd_M_work : sx_cd y_M_work 5 := ⟨tw_823, tw_10, ⟨by decide +kernel, by decide +kernel, by decide +kernel⟩, by decide⟩
theorem im_M_work : Cond.instanceMethod y_M_work.1 ∈ sx_T := tw_821
theorem se_M_work : Cond.selects y_M_work.1.cls y_M_work.1 y_M_work.1 ∈ sx_T := tw_822
theorem cd_J_floorDiv : sx_cd y_J_floorDiv 2 := ⟨tw_468, tw_11, ⟨by decide +kernel, by decide +kernel, by decide +kernel⟩, by decide⟩
theorem st_J_floorDiv : Cond.static y_J_floorDiv.1 ∈ sx_T := tw_467
theorem cd_J_max : sx_cd y_J_max 2 := ⟨tw_369, tw_11, ⟨by decide +kernel, by decide +kernel, by decide +kernel⟩, by decide⟩
theorem st_J_max : Cond.static y_J_max.1 ∈ sx_T := tw_368
theorem cd_J_min : sx_cd y_J_min 2 := ⟨tw_366, tw_11, ⟨by decide +kernel, by decide +kernel, by decide +kernel⟩, by decide⟩
theorem st_J_min : Cond.static y_J_min.1 ∈ sx_T := tw_365
end
section
def g_shl : List (Nat × Nat) := [(0, 0), (8, 11), (1, 11), (0, 4), (101, 200), (100, 200), (100, 200), (100, 4), (102, 6), (100, 36), (100, 4), (100, 8), (100, 8), (100, 8), (7, 11), (7, 11), (7, 11), (7, 11), (7, 11), (7, 11), (3, 3), (6, 2), (2, 2), (100, 6), (100, 6), (4, 15), (2, 2), (100, 6), (100, 6), (2, 2), (100, 6), (100, 6), (103, 12), (100, 6), (100, 6), (6, 2), (6, 2), (6, 2), (6, 2), (6, 2), (6, 2), (6, 2), (6, 2), (6, 2), (6, 2), (6, 2), (6, 2), (6, 2), (5, 4), (100, 6), (101, 6), (9, 38), (100, 4), (100, 6), (100, 6), (100, 6), (100, 6), (101, 6), (100, 36), (100, 6), (100, 6), (100, 8), (100, 8), (100, 8), (101, 200), (101, 400), (100, 4), (100, 6), (100, 6), (101, 6), (100, 6), (101, 6), (100, 7), (100, 7), (100, 7), (100, 1407), (100, 1407), (100, 6), (100, 6), (100, 6)]
def g_rfl : List (List (Option Nat)) := [[], [some 2, some 20, some 22, some 25, some 47, some 48, some 50], [some 3, some 7, some 8, some 9, some 10, some 11, some 12, some 13], [some 4, some 5, some 6], [], [], [], [], [some 14, some 15, some 16, some 17, some 18, some 19], [], [], [], [], [], [], [], [], [], [], [], [some 2, some 3, some 21], [], [some 23, some 24], [], [], [some 2, some 20, some 22, some 26, some 29, some 32, some 33, some 34], [some 27, some 28], [], [], [some 30, some 31], [], [], [some 35, some 36, some 37, some 38, some 39, some 40, some 41, some 42, some 43, some 44, some 45, some 46], [], [], [], [], [], [], [], [], [], [], [], [], [], [], [], [some 2, some 22, some 49], [], [], [none, some 52, none, some 53, some 54, some 55, some 56, some 57, some 58, some 59, some 60, none, some 61, some 62, some 63, none, some 64, some 65, some 66, none, some 67, some 68, some 69, some 70, some 71, none, none, some 72, some 73, some 74, some 75, some 76, some 77, none, none, none, some 78, some 79], [], [], [], [], [], [], [], [], [], [], [], [], [], [], [], [], [], [], [], [], [], [], [], [], [], [], [], []]
/-- the heap behind the two constructors: cells and references stay, numbers change -/
def gm (M : Nat → Nat → Int) : sx_h := (79, (fun a => g_shl.getD a (0, 0)), M, (fun a k => (g_rfl.getD a []).getD k none))
theorem go {M : Nat → Nat → Int} {a t n : Nat} (h1 : (a != 0) = true) (h2 : Nat.ble a 79 = true) (h3 : g_shl.getD a (0, 0) = (t, n)) : sx_o (gm M) a t n := ⟨by simpa using h1, Nat.le_of_ble_eq_true h2, h3⟩
theorem go_w (M : Nat → Nat → Int) {w : Nat} (hw : w < 6) : sx_o (gm M) (14 + w) 7 11 := by
  match w, hw with
  | 0, _ => exact go rfl rfl rfl
  | 1, _ => exact go rfl rfl rfl
  | 2, _ => exact go rfl rfl rfl
  | 3, _ => exact go rfl rfl rfl
  | 4, _ => exact go rfl rfl rfl
  | 5, _ => exact go rfl rfl rfl
  | w + 6, hw => omega
theorem go_i (M : Nat → Nat → Int) {j : Nat} (hj : j < 12) : sx_o (gm M) (35 + j) 6 2 := by
  match j, hj with
  | 0, _ => exact go rfl rfl rfl
  | 1, _ => exact go rfl rfl rfl
  | 2, _ => exact go rfl rfl rfl
  | 3, _ => exact go rfl rfl rfl
  | 4, _ => exact go rfl rfl rfl
  | 5, _ => exact go rfl rfl rfl
  | 6, _ => exact go rfl rfl rfl
  | 7, _ => exact go rfl rfl rfl
  | 8, _ => exact go rfl rfl rfl
  | 9, _ => exact go rfl rfl rfl
  | 10, _ => exact go rfl rfl rfl
  | 11, _ => exact go rfl rfl rfl
  | j + 12, hj => omega
theorem gr_w (M : Nat → Nat → Int) {w : Nat} (hw : w < 6) : (gm M).2.2.2 8 w = some (14 + w) := by
  match w, hw with
  | 0, _ => rfl
  | 1, _ => rfl
  | 2, _ => rfl
  | 3, _ => rfl
  | 4, _ => rfl
  | 5, _ => rfl
  | w + 6, hw => omega
theorem gr_i (M : Nat → Nat → Int) {j : Nat} (hj : j < 12) : (gm M).2.2.2 32 j = some (35 + j) := by
  match j, hj with
  | 0, _ => rfl
  | 1, _ => rfl
  | 2, _ => rfl
  | 3, _ => rfl
  | 4, _ => rfl
  | 5, _ => rfl
  | 6, _ => rfl
  | 7, _ => rfl
  | 8, _ => rfl
  | 9, _ => rfl
  | 10, _ => rfl
  | 11, _ => rfl
  | j + 12, hj => omega
end
section
/-! working days: how many lie before a day -/
def dy_b (r : Nat → Bool) : Nat → Nat
  | 0 => 0
  | d + 1 => dy_b r d + (if r d = true then 0 else 1)
theorem dy_s (r : Nat → Bool) (d : Nat) : dy_b r (d + 1) = dy_b r d + (if r d = true then 0 else 1) := rfl
theorem dy_mono {r : Nat → Bool} {a : Nat} : ∀ {b : Nat}, a ≤ b → dy_b r a ≤ dy_b r b := by
  intro b h
  induction b with
  | zero => rw [Nat.le_zero.mp h]; exact Nat.le_refl _
  | succ b ih =>
    rcases Nat.lt_or_ge a (b + 1) with q | q
    · have := ih (by omega)
      rw [dy_s]
      omega
    · rw [show a = b + 1 by omega]; exact Nat.le_refl _
theorem dy_lt {r : Nat → Bool} {a b : Nat} (h : r a = false) (hab : a < b) : dy_b r a < dy_b r b := by
  have h1 : dy_b r (a + 1) ≤ dy_b r b := dy_mono hab
  rw [dy_s, h] at h1
  simp at h1
  omega
theorem dy_of_lt {r : Nat → Bool} {a b : Nat} (h : dy_b r a < dy_b r b) : a < b := by
  rcases Nat.lt_or_ge a b with q | q
  · exact q
  · have := dy_mono (r := r) q
    omega
theorem dy_le_iff {r : Nat → Bool} {f s : Nat} (hs : r s = false) : dy_b r f ≤ dy_b r s ↔ f ≤ s := by
  constructor
  · intro h
    rcases Nat.lt_or_ge s f with q | q
    · have := dy_lt hs q
      omega
    · exact q
  · exact dy_mono
theorem dy_lt_iff {r : Nat → Bool} {f s : Nat} (hs : r s = false) : dy_b r s < dy_b r f ↔ s < f := by
  have := dy_le_iff (f := f) hs
  constructor <;> intro h <;> omega
theorem dy_inj {r : Nat → Bool} {a b : Nat} (ha : r a = false) (hb : r b = false) (e : dy_b r a = dy_b r b) : a = b := by
  have h1 := (dy_le_iff (f := a) hb).mp (by omega)
  have h2 := (dy_le_iff (f := b) ha).mp (by omega)
  omega
theorem dy_le (r : Nat → Bool) (d : Nat) : dy_b r d ≤ d := by
  induction d with
  | zero => exact Nat.le_refl _
  | succ d ih =>
    rw [dy_s]
    split <;> omega
theorem dy_gap (r : Nat → Bool) (a n : Nat) : dy_b r (a + n) ≤ dy_b r a + n := by
  induction n with
  | zero => exact Nat.le_refl _
  | succ n ih =>
    rw [show a + (n + 1) = (a + n) + 1 by omega, dy_s]
    split <;> omega
/-- behind the last rest day each day counts -/
theorem dy_far {r : Nat → Bool} {T : Nat} (hT : ∀ d, T ≤ d → r d = false) (n : Nat) : dy_b r (T + n) = dy_b r T + n := by
  induction n with
  | zero => rfl
  | succ n ih =>
    rw [show T + (n + 1) = (T + n) + 1 by omega, dy_s, hT (T + n) (by omega), ih]
    simp
    omega
/-- the working day of a number: the first working day d with so many before it -/
theorem dy_ex {r : Nat → Bool} {T : Nat} (hT : ∀ d, T ≤ d → r d = false) (n : Nat) : ∃ d, r d = false ∧ dy_b r d = n := by
  have key : ∀ k, n < dy_b r k → ∃ d, d < k ∧ r d = false ∧ dy_b r d = n := by
    intro k
    induction k with
    | zero => intro h; exact absurd h (Nat.not_lt_zero _)
    | succ k ih =>
      intro h
      rw [dy_s] at h
      by_cases hk : n < dy_b r k
      · obtain ⟨d, h1, h2⟩ := ih hk
        exact ⟨d, by omega, h2⟩
      · by_cases hr : r k = true
        · rw [if_pos hr] at h
          omega
        · rw [if_neg hr] at h
          exact ⟨k, by omega, by simpa using hr, by omega⟩
  have h1 := dy_far hT (n + 1)
  obtain ⟨d, -, h2⟩ := key (T + (n + 1)) (by omega)
  exact ⟨d, h2⟩
end
section
/-- the rest days in the class's memory -/
def dr (M : Nat → Nat → Int) : Nat → Bool := fun d => decide (d < 200) && decide (M 4 d = 1)
theorem dr_far (M : Nat → Nat → Int) : ∀ d, 200 ≤ d → dr M d = false := fun d h => by simp [dr]; omega
/-- the working day of a number -/
noncomputable def dn (r : Nat → Bool) (n : Nat) : Nat := Classical.epsilon (fun d => r d = false ∧ dy_b r d = n)
theorem dn_ok {r : Nat → Bool} {T : Nat} (hT : ∀ d, T ≤ d → r d = false) (n : Nat) : r (dn r n) = false ∧ dy_b r (dn r n) = n := Classical.epsilon_spec (dy_ex hT n)
theorem dn_eq {r : Nat → Bool} {d n : Nat} (h : r d = false) (hb : dy_b r d = n) : dn r n = d := by
  have h0 : ∃ d, r d = false ∧ dy_b r d = n := ⟨d, h, hb⟩
  have h1 := Classical.epsilon_spec h0
  exact dy_inj h1.1 h (h1.2.trans hb.symm)
/-- the class's tables of days are right -/
def IDy (M : Nat → Nat → Int) : Prop := (∀ d, d < 200 → M 4 d = 0 ∨ M 4 d = 1) ∧ (∀ d, d < 200 → M 5 d = (dy_b (dr M) d : Int)) ∧ (∀ n, n < dy_b (dr M) 200 → M 6 n = (dn (dr M) n : Int)) ∧ M 3 3 = 200 - (dy_b (dr M) 200 : Int)
end
section
set_option maxRecDepth 100000 in
set_option maxHeartbeats 4000000 in
theorem c_D_before {L : Nat} {xs : Nat → Int32} (M : Nat → Nat → Int) (hI : IDy M) (d : Int) (hd : sx_r d) : sx_R y_D_before (0, 0, 0) L xs [sx_p 3, .inl d] (gm M) (fun v h2 => v = some (.inl ((dy_b (dr M) d.toNat : Nat) : Int)) ∧ h2 = gm M) := by
  refine sx_enter rfl (Nat.le_of_ble_eq_true rfl) rfl ?_
  show sx_V y_D_before (0, 0, 0) L xs (0, 0) 0 [some (sx_p 3), some (.inl d)] [] (gm M) _
  refine sx_iload_n d_D_before_0 rfl ?_
  refine sx_if_ge (tgt := 6) d_D_before_1 (by decide) hd (fun c1_6 => ?_) (fun c1_6 => ?_)
  · refine sx_iload_n d_D_before_6 rfl ?_
    refine sx_sipush d_D_before_7 (by decide) ?_
    refine sx_icmp_ge (tgt := 22) d_D_before_10 (by decide) hd ⟨by decide, by decide⟩ (fun c10_9 => ?_) (fun c10_9 => ?_)
    · refine sx_iload_n d_D_before_22 rfl ?_
      refine sx_aload_n d_D_before_23 rfl ?_
      refine sx_getI (z := (M 3 3)) d_D_before_24 fl_D_29 (go rfl rfl rfl) (by decide) (by decide) (by decide) rfl ?_
      refine sx_isub d_D_before_27 ?_
      refine sx_retI d_D_before_28 (Or.inl rfl) ⟨by decide, by decide⟩ ?_
      refine ⟨?_, rfl⟩
      congr 2
      first | (rw [show d.toNat = 0 by omega]; rfl) | exact hI.2.1 _ (by omega) | (have e2 := dy_far (dr_far M) (d.toNat - 200); rw [show 200 + (d.toNat - 200) = d.toNat by omega] at e2; have e3 := hI.2.2.2; omega)
    · refine sx_aload_n d_D_before_13 rfl ?_
      refine sx_getR (r := some (5)) d_D_before_14 fl_D_15 (go rfl rfl rfl) (by decide) (by decide) (by decide) rfl ?_
      refine sx_iload_n d_D_before_17 rfl ?_
      refine sx_iald (z := (M 5 (Int.toNat d))) d_D_before_18 (go rfl rfl rfl) (by omega) (by omega) (by decide) rfl ?_
      refine sx_goto (tgt := 28) d_D_before_19 (by decide) ?_
      refine sx_retI d_D_before_28 (Or.inl rfl) ⟨by decide, by decide⟩ ?_
      refine ⟨?_, rfl⟩
      congr 2
      first | (rw [show d.toNat = 0 by omega]; rfl) | exact hI.2.1 _ (by omega) | (have e2 := dy_far (dr_far M) (d.toNat - 200); rw [show 200 + (d.toNat - 200) = d.toNat by omega] at e2; have e3 := hI.2.2.2; omega)
  · refine sx_iconst d_D_before_4 ?_
    refine sx_retI d_D_before_5 (Or.inl rfl) ⟨by decide, by decide⟩ ?_
    refine ⟨?_, rfl⟩
    congr 2
    first | (rw [show d.toNat = 0 by omega]; rfl) | exact hI.2.1 _ (by omega) | (have e2 := dy_far (dr_far M) (d.toNat - 200); rw [show 200 + (d.toNat - 200) = d.toNat by omega] at e2; have e3 := hI.2.2.2; omega)
set_option maxRecDepth 100000 in
set_option maxHeartbeats 4000000 in
theorem c_D_dayOf {L : Nat} {xs : Nat → Int32} (M : Nat → Nat → Int) (hI : IDy M) (n : Int) (hn : sx_r n) (h0 : 0 ≤ n) : sx_R y_D_dayOf (0, 0, 0) L xs [sx_p 3, .inl n] (gm M) (fun v h2 => v = some (.inl ((dn (dr M) n.toNat : Nat) : Int)) ∧ h2 = gm M) := by
  refine sx_enter rfl (Nat.le_of_ble_eq_true rfl) rfl ?_
  show sx_V y_D_dayOf (0, 0, 0) L xs (0, 0) 0 [some (sx_p 3), some (.inl n)] [] (gm M) _
  refine sx_iload_n d_D_dayOf_0 rfl ?_
  refine sx_if_ge (tgt := 6) d_D_dayOf_1 (by decide) hn (fun c1_6 => ?_) (fun c1_6 => ?_)
  · refine sx_iload_n d_D_dayOf_6 rfl ?_
    refine sx_sipush d_D_dayOf_7 (by decide) ?_
    refine sx_aload_n d_D_dayOf_10 rfl ?_
    refine sx_getI (z := (M 3 3)) d_D_dayOf_11 fl_D_29 (go rfl rfl rfl) (by decide) (by decide) (by decide) rfl ?_
    refine sx_isub d_D_dayOf_14 ?_
    refine sx_icmp_ge (tgt := 27) d_D_dayOf_15 (by decide) hn ⟨by have e1 := hI.2.2.2; have e2 := dy_le (dr M) 200; omega, by have e1 := hI.2.2.2; have e2 := dy_le (dr M) 200; omega⟩ (fun c15_12 => ?_) (fun c15_12 => ?_)
    · refine sx_iload_n d_D_dayOf_27 rfl ?_
      refine sx_aload_n d_D_dayOf_28 rfl ?_
      refine sx_getI (z := (M 3 3)) d_D_dayOf_29 fl_D_29 (go rfl rfl rfl) (by decide) (by decide) (by decide) rfl ?_
      refine sx_iadd d_D_dayOf_32 ?_
      refine sx_retI d_D_dayOf_33 (Or.inl rfl) ⟨by decide, by decide⟩ ?_
      refine ⟨?_, rfl⟩
      congr 2
      first | omega | (have e2 := hI.2.2.1 n.toNat (by have e3 := hI.2.2.2; omega); exact e2) | (have e3 := hI.2.2.2; have e4 := dy_le (dr M) 200; have e2 := dy_far (dr_far M) (n.toNat - dy_b (dr M) 200); rw [dn_eq (dr_far M _ (by omega)) (show dy_b (dr M) (200 + (n.toNat - dy_b (dr M) 200)) = n.toNat by omega)]; omega)
    · refine sx_aload_n d_D_dayOf_18 rfl ?_
      refine sx_getR (r := some (6)) d_D_dayOf_19 fl_D_19 (go rfl rfl rfl) (by decide) (by decide) (by decide) rfl ?_
      refine sx_iload_n d_D_dayOf_22 rfl ?_
      refine sx_iald (z := (M 6 (Int.toNat n))) d_D_dayOf_23 (go rfl rfl rfl) (by have e1 := hI.2.2.2; have e2 := dy_le (dr M) 200; omega) (by have e1 := hI.2.2.2; have e2 := dy_le (dr M) 200; omega) (by decide) rfl ?_
      refine sx_goto (tgt := 33) d_D_dayOf_24 (by decide) ?_
      refine sx_retI d_D_dayOf_33 (Or.inl rfl) ⟨by decide, by decide⟩ ?_
      refine ⟨?_, rfl⟩
      congr 2
      first | omega | (have e2 := hI.2.2.1 n.toNat (by have e3 := hI.2.2.2; omega); exact e2) | (have e3 := hI.2.2.2; have e4 := dy_le (dr M) 200; have e2 := dy_far (dr_far M) (n.toNat - dy_b (dr M) 200); rw [dn_eq (dr_far M _ (by omega)) (show dy_b (dr M) (200 + (n.toNat - dy_b (dr M) 200)) = n.toNat by omega)]; omega)
  · refine sx_iconst d_D_dayOf_4 ?_
    refine sx_retI d_D_dayOf_5 (Or.inl rfl) ⟨by decide, by decide⟩ ?_
    refine ⟨?_, rfl⟩
    congr 2
    first | omega | (have e2 := hI.2.2.1 n.toNat (by have e3 := hI.2.2.2; omega); exact e2) | (have e3 := hI.2.2.2; have e4 := dy_le (dr M) 200; have e2 := dy_far (dr_far M) (n.toNat - dy_b (dr M) 200); rw [dn_eq (dr_far M _ (by omega)) (show dy_b (dr M) (200 + (n.toNat - dy_b (dr M) 200)) = n.toNat by omega)]; omega)
set_option maxRecDepth 100000 in
set_option maxHeartbeats 4000000 in
theorem c_D_isWorking {L : Nat} {xs : Nat → Int32} (M : Nat → Nat → Int) (hI : IDy M) (d : Int) (hd : sx_r d) : sx_R y_D_isWorking (0, 0, 0) L xs [sx_p 3, .inl d] (gm M) (fun v h2 => v = some (.inl (if 0 ≤ d ∧ dr M d.toNat = false then 1 else 0)) ∧ h2 = gm M) := by
  refine sx_enter rfl (Nat.le_of_ble_eq_true rfl) rfl ?_
  show sx_V y_D_isWorking (0, 0, 0) L xs (0, 0) 0 [some (sx_p 3), some (.inl d)] [] (gm M) _
  refine sx_iload_n d_D_isWorking_0 rfl ?_
  refine sx_sipush d_D_isWorking_1 (by decide) ?_
  refine sx_icmp_ge (tgt := 20) d_D_isWorking_4 (by decide) hd ⟨by decide, by decide⟩ (fun c4_7 => ?_) (fun c4_7 => ?_)
  · refine sx_iconst d_D_isWorking_20 ?_
    refine sx_goto (tgt := 25) d_D_isWorking_21 (by decide) ?_
    refine sx_retI d_D_isWorking_25 (Or.inr ⟨rfl, by first | exact Or.inl rfl | exact Or.inr rfl | omega⟩) ⟨by decide, by decide⟩ ?_
    refine ⟨?_, rfl⟩
    congr 2
    first | (rw [if_pos ⟨by omega, dr_far M _ (by omega)⟩]) | (rw [if_neg (fun q => absurd q.1 (by omega))]) | (rw [if_pos ⟨by omega, by simp [dr]; intro _; omega⟩]) | (rw [if_neg (fun q => absurd q.2 (by have := hI.1 d.toNat (by omega); simp [dr]; omega))])
  · refine sx_iload_n d_D_isWorking_7 rfl ?_
    refine sx_if_lt (tgt := 24) d_D_isWorking_8 (by decide) hd (fun c8_15 => ?_) (fun c8_15 => ?_)
    · refine sx_iconst d_D_isWorking_24 ?_
      refine sx_retI d_D_isWorking_25 (Or.inr ⟨rfl, by first | exact Or.inl rfl | exact Or.inr rfl | omega⟩) ⟨by decide, by decide⟩ ?_
      refine ⟨?_, rfl⟩
      congr 2
      first | (rw [if_pos ⟨by omega, dr_far M _ (by omega)⟩]) | (rw [if_neg (fun q => absurd q.1 (by omega))]) | (rw [if_pos ⟨by omega, by simp [dr]; intro _; omega⟩]) | (rw [if_neg (fun q => absurd q.2 (by have := hI.1 d.toNat (by omega); simp [dr]; omega))])
    · refine sx_aload_n d_D_isWorking_11 rfl ?_
      refine sx_getR (r := some (4)) d_D_isWorking_12 fl_D_9 (go rfl rfl rfl) (by decide) (by decide) (by decide) rfl ?_
      refine sx_iload_n d_D_isWorking_15 rfl ?_
      refine sx_zald (z := (M 4 (Int.toNat d))) d_D_isWorking_16 (go rfl rfl rfl) (by omega) (by omega) (by decide) rfl ?_
      refine sx_if_ne (tgt := 24) d_D_isWorking_17 (by decide) ⟨by have := hI.1 d.toNat (by omega); omega, by have := hI.1 d.toNat (by omega); omega⟩ (fun c17_25 => ?_) (fun c17_25 => ?_)
      · refine sx_iconst d_D_isWorking_24 ?_
        refine sx_retI d_D_isWorking_25 (Or.inr ⟨rfl, by first | exact Or.inl rfl | exact Or.inr rfl | omega⟩) ⟨by decide, by decide⟩ ?_
        refine ⟨?_, rfl⟩
        congr 2
        first | (rw [if_pos ⟨by omega, dr_far M _ (by omega)⟩]) | (rw [if_neg (fun q => absurd q.1 (by omega))]) | (rw [if_pos ⟨by omega, by simp [dr]; intro _; omega⟩]) | (rw [if_neg (fun q => absurd q.2 (by have := hI.1 d.toNat (by omega); simp [dr]; omega))])
      · refine sx_iconst d_D_isWorking_20 ?_
        refine sx_goto (tgt := 25) d_D_isWorking_21 (by decide) ?_
        refine sx_retI d_D_isWorking_25 (Or.inr ⟨rfl, by first | exact Or.inl rfl | exact Or.inr rfl | omega⟩) ⟨by decide, by decide⟩ ?_
        refine ⟨?_, rfl⟩
        congr 2
        first | (rw [if_pos ⟨by omega, dr_far M _ (by omega)⟩]) | (rw [if_neg (fun q => absurd q.1 (by omega))]) | (rw [if_pos ⟨by omega, by simp [dr]; intro _; omega⟩]) | (rw [if_neg (fun q => absurd q.2 (by have := hI.1 d.toNat (by omega); simp [dr]; omega))])
/-- what counting the working days leaves -/
def cwd_P (M M2 : Nat → Nat → Int) : Prop := (∀ a k, a ≠ 5 → a ≠ 6 → M2 a k = M a k) ∧ (∀ d, d < 200 → M2 5 d = ((dy_b (dr M) d : Nat) : Int)) ∧ (∀ n, n < dy_b (dr M) 200 → M2 6 n = ((dn (dr M) n : Nat) : Int))
set_option maxRecDepth 100000 in
set_option maxHeartbeats 4000000 in
theorem l_D_cwd {L : Nat} {xs : Nat → Int32} (M : Nat → Nat → Int) (h4 : ∀ d, d < 200 → M 4 d = 0 ∨ M 4 d = 1) : ∀ (n i : Nat) (M1 : Nat → Nat → Int), 200 - i < n → i ≤ 200 → (∀ a k, a ≠ 5 → a ≠ 6 → M1 a k = M a k) → (∀ d, d < i → M1 5 d = ((dy_b (dr M) d : Nat) : Int)) → (∀ n, n < dy_b (dr M) i → M1 6 n = ((dn (dr M) n : Nat) : Int)) → sx_V y_D_countWorkingDays (0, 0, 0) L xs (0, 0) 4 [some (sx_p 3), some (.inl ((dy_b (dr M) i : Nat) : Int)), some (.inl (i : Int))] [] (gm M1) (fun v h2 => v = none ∧ ∃ M2, h2 = gm M2 ∧ cwd_P M M2) := by
  intro n
  induction n with
  | zero => intro i M1 h1 h2; omega
  | succ n ih =>
    intro i M1 hn hi hag h5 h6
    refine sx_iload_n d_D_countWorkingDays_4 rfl ?_
    refine sx_sipush d_D_countWorkingDays_5 (by decide) ?_
    refine sx_icmp_ge (tgt := 43) d_D_countWorkingDays_8 (by decide) ⟨by omega, by omega⟩ ⟨by decide, by decide⟩ (fun c8_10 => ?_) (fun c8_10 => ?_)
    · refine sx_retV d_D_countWorkingDays_43 rfl ⟨by decide, by decide⟩ ?_
      have e0 : i = 200 := by omega
      subst e0
      exact ⟨rfl, _, rfl, hag, h5, h6⟩
    · have e4 := dy_le (dr M) i
      refine sx_aload_n d_D_countWorkingDays_11 rfl ?_
      refine sx_getR (r := some (5)) d_D_countWorkingDays_12 fl_D_15 (go rfl rfl rfl) (by decide) (by decide) (by decide) rfl ?_
      refine sx_iload_n d_D_countWorkingDays_15 rfl ?_
      refine sx_iload_n d_D_countWorkingDays_16 rfl ?_
      refine sx_iast (h2 := gm (sx_u M1 5 i ((dy_b (dr M) i : Nat) : Int))) d_D_countWorkingDays_17 (go rfl rfl rfl) (by omega) (by omega) (by decide) rfl ?_
      refine sx_aload_n d_D_countWorkingDays_18 rfl ?_
      refine sx_getR (r := some (4)) d_D_countWorkingDays_19 fl_D_9 (go rfl rfl rfl) (by decide) (by decide) (by decide) rfl ?_
      refine sx_iload_n d_D_countWorkingDays_22 rfl ?_
      refine sx_zald (z := (M1 4 i)) d_D_countWorkingDays_23 (go rfl rfl rfl) (by omega) (by omega) (by decide) rfl ?_
      refine sx_if_ne (tgt := 37) d_D_countWorkingDays_24 (by decide) ⟨by have e5 := hag 4 i (by decide) (by decide); have e6 := h4 i (by omega); omega, by have e5 := hag 4 i (by decide) (by decide); have e6 := h4 i (by omega); omega⟩ (fun c24_25 => ?_) (fun c24_25 => ?_)
      · have e5 := hag 4 i (by decide) (by decide)
        refine sx_iinc (l' := [some (sx_p 3), some (.inl ((dy_b (dr M) i : Nat) : Int)), some (.inl ((i : Int) + 1))]) d_D_countWorkingDays_37 rfl (by decide) rfl rfl ?_
        refine sx_goto (tgt := 4) d_D_countWorkingDays_40 (by decide) ?_
        have e1 : ((i : Int) + 1) = ((i + 1 : Nat) : Int) := by omega
        rw [e1]
        have h4i := h4 i (by omega)
        have hr0 : dr M i = true := by simp [dr]; omega
        have hs := dy_s (dr M) i
        rw [hr0] at hs
        simp only [if_true] at hs
        have e2 : ((dy_b (dr M) i : Nat) : Int) = ((dy_b (dr M) (i + 1) : Nat) : Int) := by omega
        rw [e2]
        refine ih (i + 1) _ (by omega) (by omega) ?_ ?_ ?_
        · intro a j ha hb
          simp only [sx_u, ha, false_and, if_false]
          exact hag a j ha hb
        · intro d hd
          by_cases q : d = i
          · subst q; simp [sx_u]; omega
          · simp [sx_u, q]; exact h5 d (by omega)
        · intro j hj
          simp [sx_u]; exact h6 j (by omega)
      · have e5 := hag 4 i (by decide) (by decide)
        refine sx_aload_n d_D_countWorkingDays_27 rfl ?_
        refine sx_getR (r := some (6)) d_D_countWorkingDays_28 fl_D_19 (go rfl rfl rfl) (by decide) (by decide) (by decide) rfl ?_
        refine sx_iload_n d_D_countWorkingDays_31 rfl ?_
        refine sx_iload_n d_D_countWorkingDays_32 rfl ?_
        refine sx_iast (h2 := gm (sx_u (sx_u M1 5 i ((dy_b (dr M) i : Nat) : Int)) 6 (Int.toNat ((dy_b (dr M) i : Nat) : Int)) (i : Int))) d_D_countWorkingDays_33 (go rfl rfl rfl) (by omega) (by omega) (by decide) rfl ?_
        refine sx_iinc (l' := [some (sx_p 3), some (.inl (((dy_b (dr M) i : Nat) : Int) + 1)), some (.inl (i : Int))]) d_D_countWorkingDays_34 rfl (by decide) rfl rfl ?_
        refine sx_iinc (l' := [some (sx_p 3), some (.inl (((dy_b (dr M) i : Nat) : Int) + 1)), some (.inl ((i : Int) + 1))]) d_D_countWorkingDays_37 rfl (by decide) rfl rfl ?_
        refine sx_goto (tgt := 4) d_D_countWorkingDays_40 (by decide) ?_
        have e1 : ((i : Int) + 1) = ((i + 1 : Nat) : Int) := by omega
        rw [e1]
        have h4i := h4 i (by omega)
        have hr0 : dr M i = false := by simp [dr]; intro _; omega
        have hs := dy_s (dr M) i
        rw [hr0] at hs
        simp only [Bool.false_eq_true, if_false] at hs
        have e2 : (((dy_b (dr M) i : Nat) : Int) + 1) = ((dy_b (dr M) (i + 1) : Nat) : Int) := by omega
        rw [e2]
        have e3 : dn (dr M) (dy_b (dr M) i) = i := dn_eq hr0 rfl
        refine ih (i + 1) _ (by omega) (by omega) ?_ ?_ ?_
        · intro a j ha hb
          simp only [sx_u, ha, hb, false_and, if_false]
          exact hag a j ha hb
        · intro d hd
          by_cases q : d = i
          · subst q; simp [sx_u]
          · simp [sx_u, q]; exact h5 d (by omega)
        · intro j hj
          by_cases q : j = dy_b (dr M) i
          · subst q; simp [sx_u, e3]
          · simp [sx_u, q]; exact h6 j (by omega)
set_option maxRecDepth 100000 in
set_option maxHeartbeats 4000000 in
theorem c_D_cwd {L : Nat} {xs : Nat → Int32} (M : Nat → Nat → Int) (h4 : ∀ d, d < 200 → M 4 d = 0 ∨ M 4 d = 1) : sx_R y_D_countWorkingDays (0, 0, 0) L xs [sx_p 3] (gm M) (fun v h2 => v = none ∧ ∃ M2, h2 = gm M2 ∧ cwd_P M M2) := by
  refine sx_enter rfl (Nat.le_of_ble_eq_true rfl) rfl ?_
  show sx_V y_D_countWorkingDays (0, 0, 0) L xs (0, 0) 0 [some (sx_p 3), none, none] [] (gm M) _
  refine sx_iconst d_D_countWorkingDays_0 ?_
  refine sx_istore_n (l' := [some (sx_p 3), some (.inl 0), none]) d_D_countWorkingDays_1 (by decide) rfl rfl ?_
  refine sx_iconst d_D_countWorkingDays_2 ?_
  refine sx_istore_n (l' := [some (sx_p 3), some (.inl 0), some (.inl 0)]) d_D_countWorkingDays_3 (by decide) rfl rfl ?_
  exact l_D_cwd M h4 201 0 M (by omega) (by omega) (fun _ _ _ _ => rfl) (fun _ h => absurd h (Nat.not_lt_zero _)) (fun _ h => absurd h (Nat.not_lt_zero _))
end
section
/-- every number of the memory is an int -/
def IR (M : Nat → Nat → Int) : Prop := ∀ a k, sx_r (M a k)
theorem IR.u {M : Nat → Nat → Int} (h : IR M) (a k : Nat) {z : Int} (hz : sx_r z) : IR (sx_u M a k z) := by
  intro a2 k2
  unfold sx_u
  split
  · exact hz
  · exact h a2 k2
set_option maxRecDepth 100000 in
set_option maxHeartbeats 4000000 in
theorem c_isWithin {L : Nat} {xs : Nat → Int32} (M : Nat → Nat → Int) (x lo hi : Int) (hx : sx_r x) (hl : sx_r lo) (hh : sx_r hi) : sx_R y_T_isWithin (0, 0, 0) L xs [.inl x, .inl lo, .inl hi] (gm M) (fun v h2 => v = some (.inl (if lo ≤ x ∧ x ≤ hi then 1 else 0)) ∧ h2 = gm M) := by
  refine sx_enter rfl (Nat.le_of_ble_eq_true rfl) rfl ?_
  show sx_V y_T_isWithin (0, 0, 0) L xs (0, 0) 0 [some (.inl x), some (.inl lo), some (.inl hi)] [] (gm M) _
  refine sx_iload_n d_T_isWithin_0 rfl ?_
  refine sx_iload_n d_T_isWithin_1 rfl ?_
  refine sx_icmp_gt (tgt := 14) d_T_isWithin_2 (by decide) hl hx (fun c2_7 => ?_) (fun c2_7 => ?_)
  · refine sx_iconst d_T_isWithin_14 ?_
    refine sx_retI d_T_isWithin_15 (Or.inr ⟨rfl, by first | exact Or.inl rfl | exact Or.inr rfl | omega⟩) ⟨by decide, by decide⟩ ?_
    refine ⟨?_, rfl⟩
    congr 2
    first | rw [if_pos (by omega)] | rw [if_neg (by omega)]
  · refine sx_iload_n d_T_isWithin_5 rfl ?_
    refine sx_iload_n d_T_isWithin_6 rfl ?_
    refine sx_icmp_gt (tgt := 14) d_T_isWithin_7 (by decide) hx hh (fun c7_15 => ?_) (fun c7_15 => ?_)
    · refine sx_iconst d_T_isWithin_14 ?_
      refine sx_retI d_T_isWithin_15 (Or.inr ⟨rfl, by first | exact Or.inl rfl | exact Or.inr rfl | omega⟩) ⟨by decide, by decide⟩ ?_
      refine ⟨?_, rfl⟩
      congr 2
      first | rw [if_pos (by omega)] | rw [if_neg (by omega)]
    · refine sx_iconst d_T_isWithin_10 ?_
      refine sx_goto (tgt := 15) d_T_isWithin_11 (by decide) ?_
      refine sx_retI d_T_isWithin_15 (Or.inr ⟨rfl, by first | exact Or.inl rfl | exact Or.inr rfl | omega⟩) ⟨by decide, by decide⟩ ?_
      refine ⟨?_, rfl⟩
      congr 2
      first | rw [if_pos (by omega)] | rw [if_neg (by omega)]
set_option maxRecDepth 100000 in
set_option maxHeartbeats 4000000 in
theorem c_W_set {L : Nat} {xs : Nat → Int32} (M : Nat → Nat → Int) (a : Nat) (ho : ∀ M, sx_o (gm M) a 6 2) (x z : Int) : sx_R y_W_set (0, 0, 0) L xs [sx_p a, .inl x, .inl z] (gm M) (fun v h2 => v = none ∧ h2 = gm (sx_u (sx_u M a 0 x) a 1 z)) := by
  refine sx_enter rfl (Nat.le_of_ble_eq_true rfl) rfl ?_
  show sx_V y_W_set (0, 0, 0) L xs (0, 0) 0 [some (sx_p a), some (.inl x), some (.inl z)] [] (gm M) _
  refine sx_aload_n d_W_set_0 rfl ?_
  refine sx_iload_n d_W_set_1 rfl ?_
  refine sx_putI (h2 := gm (sx_u M a 0 x)) d_W_set_2 fl_W_7 (ho _) (by decide) (by decide) (by decide) (fun q hq => Or.inl (nf_W_0 q hq)) (Or.inl rfl) rfl ?_
  refine sx_aload_n d_W_set_5 rfl ?_
  refine sx_iload_n d_W_set_6 rfl ?_
  refine sx_putI (h2 := gm (sx_u (sx_u M a 0 x) a 1 z)) d_W_set_7 fl_W_13 (ho _) (by decide) (by decide) (by decide) (fun q hq => Or.inl (nf_W_1 q hq)) (Or.inl rfl) rfl ?_
  refine sx_retV d_W_set_10 rfl ⟨by decide, by decide⟩ ?_
  exact ⟨rfl, rfl⟩
set_option maxRecDepth 100000 in
set_option maxHeartbeats 4000000 in
theorem c_W_raise {L : Nat} {xs : Nat → Int32} (M : Nat → Nat → Int) (hR : IR M) (a : Nat) (ho : ∀ M, sx_o (gm M) a 6 2) (x : Int) (hx : sx_r x) : sx_R y_W_raiseLeast (1, 0, 0) L xs [sx_p a, .inl x] (gm M) (fun v h2 => v = none ∧ h2 = gm (sx_u M a 0 (if M a 0 < x then x else M a 0))) := by
  refine sx_enter rfl (Nat.le_of_ble_eq_true rfl) rfl ?_
  show sx_V y_W_raiseLeast (1, 0, 0) L xs (0, 0) 0 [some (sx_p a), some (.inl x)] [] (gm M) _
  refine sx_aload_n d_W_raiseLeast_0 rfl ?_
  refine sx_aload_n d_W_raiseLeast_1 rfl ?_
  refine sx_getI (z := (M a 0)) d_W_raiseLeast_2 fl_W_7 (ho _) (by decide) (by decide) (by decide) rfl ?_
  refine sx_iload_n d_W_raiseLeast_5 rfl ?_
  refine sx_mmax d_W_raiseLeast_6 tw_453 tw_368 tw_11 tw_369 (by decide) (Nat.le_of_ble_eq_true rfl) (hR _ _) hx ⟨by decide, by decide⟩ ?_
  refine sx_putI (h2 := gm (sx_u M a 0 (if (M a 0) < x then x else (M a 0)))) d_W_raiseLeast_9 fl_W_7 (ho _) (by decide) (by decide) (by decide) (fun q hq => Or.inl (nf_W_0 q hq)) (Or.inl rfl) rfl ?_
  refine sx_retV d_W_raiseLeast_12 rfl ⟨by decide, by decide⟩ ?_
  exact ⟨rfl, rfl⟩
set_option maxRecDepth 100000 in
set_option maxHeartbeats 4000000 in
theorem c_W_lower {L : Nat} {xs : Nat → Int32} (M : Nat → Nat → Int) (hR : IR M) (a : Nat) (ho : ∀ M, sx_o (gm M) a 6 2) (x : Int) (hx : sx_r x) : sx_R y_W_lowerGreatest (1, 0, 0) L xs [sx_p a, .inl x] (gm M) (fun v h2 => v = none ∧ h2 = gm (sx_u M a 1 (if x < M a 1 then x else M a 1))) := by
  refine sx_enter rfl (Nat.le_of_ble_eq_true rfl) rfl ?_
  show sx_V y_W_lowerGreatest (1, 0, 0) L xs (0, 0) 0 [some (sx_p a), some (.inl x)] [] (gm M) _
  refine sx_aload_n d_W_lowerGreatest_0 rfl ?_
  refine sx_aload_n d_W_lowerGreatest_1 rfl ?_
  refine sx_getI (z := (M a 1)) d_W_lowerGreatest_2 fl_W_13 (ho _) (by decide) (by decide) (by decide) rfl ?_
  refine sx_iload_n d_W_lowerGreatest_5 rfl ?_
  refine sx_mmin d_W_lowerGreatest_6 tw_506 tw_365 tw_11 tw_366 (by decide) (Nat.le_of_ble_eq_true rfl) (hR _ _) hx ⟨by decide, by decide⟩ ?_
  refine sx_putI (h2 := gm (sx_u M a 1 (if x < (M a 1) then x else (M a 1)))) d_W_lowerGreatest_9 fl_W_13 (ho _) (by decide) (by decide) (by decide) (fun q hq => Or.inl (nf_W_1 q hq)) (Or.inl rfl) rfl ?_
  refine sx_retV d_W_lowerGreatest_12 rfl ⟨by decide, by decide⟩ ?_
  exact ⟨rfl, rfl⟩
set_option maxRecDepth 100000 in
set_option maxHeartbeats 4000000 in
theorem c_W_holds {L : Nat} {xs : Nat → Int32} (M : Nat → Nat → Int) (hR : IR M) (a : Nat) (ho : ∀ M, sx_o (gm M) a 6 2) (x : Int) (hx : sx_r x) : sx_R y_W_holds (0, 0, 0) L xs [sx_p a, .inl x] (gm M) (fun v h2 => v = some (.inl (if M a 0 ≤ x ∧ x ≤ M a 1 then 1 else 0)) ∧ h2 = gm M) := by
  refine sx_enter rfl (Nat.le_of_ble_eq_true rfl) rfl ?_
  show sx_V y_W_holds (0, 0, 0) L xs (0, 0) 0 [some (sx_p a), some (.inl x)] [] (gm M) _
  refine sx_aload_n d_W_holds_0 rfl ?_
  refine sx_getI (z := (M a 0)) d_W_holds_1 fl_W_7 (ho _) (by decide) (by decide) (by decide) rfl ?_
  refine sx_iload_n d_W_holds_4 rfl ?_
  refine sx_icmp_gt (tgt := 20) d_W_holds_5 (by decide) (hR _ _) hx (fun c5_8 => ?_) (fun c5_8 => ?_)
  · refine sx_iconst d_W_holds_20 ?_
    refine sx_retI d_W_holds_21 (Or.inr ⟨rfl, by first | exact Or.inl rfl | exact Or.inr rfl | omega⟩) ⟨by decide, by decide⟩ ?_
    refine ⟨?_, rfl⟩
    congr 2
    first | rw [if_pos (by omega)] | rw [if_neg (by omega)]
  · refine sx_iload_n d_W_holds_8 rfl ?_
    refine sx_aload_n d_W_holds_9 rfl ?_
    refine sx_getI (z := (M a 1)) d_W_holds_10 fl_W_13 (ho _) (by decide) (by decide) (by decide) rfl ?_
    refine sx_icmp_gt (tgt := 20) d_W_holds_13 (by decide) hx (hR _ _) (fun c13_17 => ?_) (fun c13_17 => ?_)
    · refine sx_iconst d_W_holds_20 ?_
      refine sx_retI d_W_holds_21 (Or.inr ⟨rfl, by first | exact Or.inl rfl | exact Or.inr rfl | omega⟩) ⟨by decide, by decide⟩ ?_
      refine ⟨?_, rfl⟩
      congr 2
      first | rw [if_pos (by omega)] | rw [if_neg (by omega)]
    · refine sx_iconst d_W_holds_16 ?_
      refine sx_goto (tgt := 21) d_W_holds_17 (by decide) ?_
      refine sx_retI d_W_holds_21 (Or.inr ⟨rfl, by first | exact Or.inl rfl | exact Or.inr rfl | omega⟩) ⟨by decide, by decide⟩ ?_
      refine ⟨?_, rfl⟩
      congr 2
      first | rw [if_pos (by omega)] | rw [if_neg (by omega)]
set_option maxRecDepth 100000 in
set_option maxHeartbeats 4000000 in
theorem c_W_isEmpty {L : Nat} {xs : Nat → Int32} (M : Nat → Nat → Int) (hR : IR M) (a : Nat) (ho : ∀ M, sx_o (gm M) a 6 2) : sx_R y_W_isEmpty (0, 0, 0) L xs [sx_p a] (gm M) (fun v h2 => v = some (.inl (if M a 1 < M a 0 then 1 else 0)) ∧ h2 = gm M) := by
  refine sx_enter rfl (Nat.le_of_ble_eq_true rfl) rfl ?_
  show sx_V y_W_isEmpty (0, 0, 0) L xs (0, 0) 0 [some (sx_p a)] [] (gm M) _
  refine sx_aload_n d_W_isEmpty_0 rfl ?_
  refine sx_getI (z := (M a 0)) d_W_isEmpty_1 fl_W_7 (ho _) (by decide) (by decide) (by decide) rfl ?_
  refine sx_aload_n d_W_isEmpty_4 rfl ?_
  refine sx_getI (z := (M a 1)) d_W_isEmpty_5 fl_W_13 (ho _) (by decide) (by decide) (by decide) rfl ?_
  refine sx_icmp_le (tgt := 15) d_W_isEmpty_8 (by decide) (hR _ _) (hR _ _) (fun c8_9 => ?_) (fun c8_9 => ?_)
  · refine sx_iconst d_W_isEmpty_15 ?_
    refine sx_retI d_W_isEmpty_16 (Or.inr ⟨rfl, by first | exact Or.inl rfl | exact Or.inr rfl | omega⟩) ⟨by decide, by decide⟩ ?_
    refine ⟨?_, rfl⟩
    congr 2
    first | rw [if_pos (by omega)] | rw [if_neg (by omega)]
  · refine sx_iconst d_W_isEmpty_11 ?_
    refine sx_goto (tgt := 16) d_W_isEmpty_12 (by decide) ?_
    refine sx_retI d_W_isEmpty_16 (Or.inr ⟨rfl, by first | exact Or.inl rfl | exact Or.inr rfl | omega⟩) ⟨by decide, by decide⟩ ?_
    refine ⟨?_, rfl⟩
    congr 2
    first | rw [if_pos (by omega)] | rw [if_neg (by omega)]
set_option maxRecDepth 100000 in
set_option maxHeartbeats 4000000 in
theorem c_K_comesTo {L : Nat} {xs : Nat → Int32} (M : Nat → Nat → Int) (hR : IR M) (w : Nat) (hw : w < 6) (p : Int) (hp : sx_r p) : sx_R y_K_comesTo (0, 0, 0) L xs [sx_p (14 + w), .inl p] (gm M) (fun v h2 => v = some (.inl (if M (14 + w) 2 ≤ p ∧ p ≤ M (14 + w) 3 then 1 else 0)) ∧ h2 = gm M) := by
  refine sx_enter rfl (Nat.le_of_ble_eq_true rfl) rfl ?_
  show sx_V y_K_comesTo (0, 0, 0) L xs (0, 0) 0 [some (sx_p (14 + w)), some (.inl p)] [] (gm M) _
  refine sx_aload_n d_K_comesTo_0 rfl ?_
  refine sx_getI (z := (M (14 + w) 2)) d_K_comesTo_1 fl_K_30 (go_w _ hw) (by decide) (by decide) (by decide) rfl ?_
  refine sx_iload_n d_K_comesTo_4 rfl ?_
  refine sx_icmp_gt (tgt := 20) d_K_comesTo_5 (by decide) (hR _ _) hp (fun c5_8 => ?_) (fun c5_8 => ?_)
  · refine sx_iconst d_K_comesTo_20 ?_
    refine sx_retI d_K_comesTo_21 (Or.inr ⟨rfl, by first | exact Or.inl rfl | exact Or.inr rfl | omega⟩) ⟨by decide, by decide⟩ ?_
    refine ⟨?_, rfl⟩
    congr 2
    first | rw [if_pos (by omega)] | rw [if_neg (by omega)]
  · refine sx_iload_n d_K_comesTo_8 rfl ?_
    refine sx_aload_n d_K_comesTo_9 rfl ?_
    refine sx_getI (z := (M (14 + w) 3)) d_K_comesTo_10 fl_K_27 (go_w _ hw) (by decide) (by decide) (by decide) rfl ?_
    refine sx_icmp_gt (tgt := 20) d_K_comesTo_13 (by decide) hp (hR _ _) (fun c13_17 => ?_) (fun c13_17 => ?_)
    · refine sx_iconst d_K_comesTo_20 ?_
      refine sx_retI d_K_comesTo_21 (Or.inr ⟨rfl, by first | exact Or.inl rfl | exact Or.inr rfl | omega⟩) ⟨by decide, by decide⟩ ?_
      refine ⟨?_, rfl⟩
      congr 2
      first | rw [if_pos (by omega)] | rw [if_neg (by omega)]
    · refine sx_iconst d_K_comesTo_16 ?_
      refine sx_goto (tgt := 21) d_K_comesTo_17 (by decide) ?_
      refine sx_retI d_K_comesTo_21 (Or.inr ⟨rfl, by first | exact Or.inl rfl | exact Or.inr rfl | omega⟩) ⟨by decide, by decide⟩ ?_
      refine ⟨?_, rfl⟩
      congr 2
      first | rw [if_pos (by omega)] | rw [if_neg (by omega)]
set_option maxRecDepth 100000 in
set_option maxHeartbeats 4000000 in
theorem c_K_wayTo {L : Nat} {xs : Nat → Int32} (M : Nat → Nat → Int) (w : Nat) (hw : w < 6) (p d : Int) (hd : sx_r d) : sx_R y_K_wayTo (0, 0, 0) L xs [sx_p (14 + w), .inl p, .inl d] (gm M) (fun v h2 => v = some (.inl (if d = 0 then p - M (14 + w) 2 else M (14 + w) 3 - p)) ∧ h2 = gm M) := by
  refine sx_enter rfl (Nat.le_of_ble_eq_true rfl) rfl ?_
  show sx_V y_K_wayTo (0, 0, 0) L xs (0, 0) 0 [some (sx_p (14 + w)), some (.inl p), some (.inl d)] [] (gm M) _
  refine sx_iload_n d_K_wayTo_0 rfl ?_
  refine sx_if_ne (tgt := 13) d_K_wayTo_1 (by decide) hd (fun c1_6 => ?_) (fun c1_6 => ?_)
  · refine sx_aload_n d_K_wayTo_13 rfl ?_
    refine sx_getI (z := (M (14 + w) 3)) d_K_wayTo_14 fl_K_27 (go_w _ hw) (by decide) (by decide) (by decide) rfl ?_
    refine sx_iload_n d_K_wayTo_17 rfl ?_
    refine sx_isub d_K_wayTo_18 ?_
    refine sx_retI d_K_wayTo_19 (Or.inl rfl) ⟨by decide, by decide⟩ ?_
    refine ⟨?_, rfl⟩
    congr 2
    first | rw [if_pos (by omega)] | rw [if_neg (by omega)]
  · refine sx_iload_n d_K_wayTo_4 rfl ?_
    refine sx_aload_n d_K_wayTo_5 rfl ?_
    refine sx_getI (z := (M (14 + w) 2)) d_K_wayTo_6 fl_K_30 (go_w _ hw) (by decide) (by decide) (by decide) rfl ?_
    refine sx_isub d_K_wayTo_9 ?_
    refine sx_goto (tgt := 19) d_K_wayTo_10 (by decide) ?_
    refine sx_retI d_K_wayTo_19 (Or.inl rfl) ⟨by decide, by decide⟩ ?_
    refine ⟨?_, rfl⟩
    congr 2
    first | rw [if_pos (by omega)] | rw [if_neg (by omega)]
/-- whole days of going before the day of arriving at (leaving) a distance -/
def wh (v len x lv : Int) : Int := (if x = 0 ∨ (lv ≠ 0 ∧ x < len) then x else x - 1) / v
set_option maxRecDepth 100000 in
set_option maxHeartbeats 4000000 in
theorem c_K_whole {L : Nat} {xs : Nat → Int32} (M : Nat → Nat → Int) (hR : IR M) (w : Nat) (hw : w < 6) (x lv : Int) (hx : 0 ≤ x ∧ x ≤ 200) (hlv : sx_r lv) (hv : 1 ≤ M (14 + w) 4 ∧ M (14 + w) 4 ≤ 50) (hft : sx_r (M (14 + w) 3 - M (14 + w) 2)) : sx_R y_K_wholeDays (0, 0, 0) L xs [sx_p (14 + w), .inl x, .inl lv] (gm M) (fun v h2 => v = some (.inl (wh (M (14 + w) 4) (M (14 + w) 3 - M (14 + w) 2) x lv)) ∧ h2 = gm M) := by
  refine sx_enter rfl (Nat.le_of_ble_eq_true rfl) rfl ?_
  show sx_V y_K_wholeDays (0, 0, 0) L xs (0, 0) 0 [some (sx_p (14 + w)), some (.inl x), some (.inl lv), none] [] (gm M) _
  refine sx_iload_n d_K_wholeDays_0 rfl ?_
  refine sx_if_eq (tgt := 21) d_K_wholeDays_1 (by decide) ⟨by omega, by omega⟩ (fun c1_6 => ?_) (fun c1_6 => ?_)
  · refine sx_iconst d_K_wholeDays_21 ?_
    refine sx_goto (tgt := 26) d_K_wholeDays_22 (by decide) ?_
    refine sx_istore_n (l' := [some (sx_p (14 + w)), some (.inl x), some (.inl lv), some (.inl 1)]) d_K_wholeDays_26 (by decide) rfl rfl ?_
    refine sx_aload_n d_K_wholeDays_27 rfl ?_
    refine sx_getI (z := (M (14 + w) 4)) d_K_wholeDays_28 fl_K_9 (go_w _ hw) (by decide) (by decide) (by decide) rfl ?_
    refine sx_iconst d_K_wholeDays_31 ?_
    refine sx_icmp_ge (tgt := 39) d_K_wholeDays_32 (by decide) (hR _ _) ⟨by decide, by decide⟩ (fun c32_13 => ?_) (fun c32_13 => ?_)
    · refine sx_iload_n d_K_wholeDays_39 rfl ?_
      refine sx_if_eq (tgt := 47) d_K_wholeDays_40 (by decide) ⟨by decide, by decide⟩ (fun c40_15 => ?_) (fun c40_15 => ?_)
      · refine sx_iload_n d_K_wholeDays_47 rfl ?_
        refine sx_iconst d_K_wholeDays_48 ?_
        refine sx_isub d_K_wholeDays_49 ?_
        refine sx_aload_n d_K_wholeDays_50 rfl ?_
        refine sx_getI (z := (M (14 + w) 4)) d_K_wholeDays_51 fl_K_9 (go_w _ hw) (by decide) (by decide) (by decide) rfl ?_
        refine sx_idiv d_K_wholeDays_54 ⟨by omega, by omega⟩ (hR _ _) (by omega) ?_
        refine sx_retI d_K_wholeDays_55 (Or.inl rfl) ⟨by decide, by decide⟩ ?_
        refine ⟨?_, rfl⟩
        congr 2
        first | omega | (unfold wh; first | (rw [if_pos (by omega), Int.tdiv_eq_ediv_of_nonneg (by omega)]) | (rw [if_neg (by omega), Int.tdiv_eq_ediv_of_nonneg (by omega)]))
      · refine sx_iload_n d_K_wholeDays_43 rfl ?_
        refine sx_goto (tgt := 50) d_K_wholeDays_44 (by decide) ?_
        refine sx_aload_n d_K_wholeDays_50 rfl ?_
        refine sx_getI (z := (M (14 + w) 4)) d_K_wholeDays_51 fl_K_9 (go_w _ hw) (by decide) (by decide) (by decide) rfl ?_
        refine sx_idiv d_K_wholeDays_54 ⟨by omega, by omega⟩ (hR _ _) (by omega) ?_
        refine sx_retI d_K_wholeDays_55 (Or.inl rfl) ⟨by decide, by decide⟩ ?_
        refine ⟨?_, rfl⟩
        congr 2
        first | omega | (unfold wh; first | (rw [if_pos (by omega), Int.tdiv_eq_ediv_of_nonneg (by omega)]) | (rw [if_neg (by omega), Int.tdiv_eq_ediv_of_nonneg (by omega)]))
    · refine sx_iconst d_K_wholeDays_35 ?_
      refine sx_goto (tgt := 55) d_K_wholeDays_36 (by decide) ?_
      refine sx_retI d_K_wholeDays_55 (Or.inl rfl) ⟨by decide, by decide⟩ ?_
      refine ⟨?_, rfl⟩
      congr 2
      first | omega | (unfold wh; first | (rw [if_pos (by omega), Int.tdiv_eq_ediv_of_nonneg (by omega)]) | (rw [if_neg (by omega), Int.tdiv_eq_ediv_of_nonneg (by omega)]))
  · refine sx_iload_n d_K_wholeDays_4 rfl ?_
    refine sx_if_eq (tgt := 25) d_K_wholeDays_5 (by decide) hlv (fun c5_42 => ?_) (fun c5_42 => ?_)
    · refine sx_iconst d_K_wholeDays_25 ?_
      refine sx_istore_n (l' := [some (sx_p (14 + w)), some (.inl x), some (.inl lv), some (.inl 0)]) d_K_wholeDays_26 (by decide) rfl rfl ?_
      refine sx_aload_n d_K_wholeDays_27 rfl ?_
      refine sx_getI (z := (M (14 + w) 4)) d_K_wholeDays_28 fl_K_9 (go_w _ hw) (by decide) (by decide) (by decide) rfl ?_
      refine sx_iconst d_K_wholeDays_31 ?_
      refine sx_icmp_ge (tgt := 39) d_K_wholeDays_32 (by decide) (hR _ _) ⟨by decide, by decide⟩ (fun c32_48 => ?_) (fun c32_48 => ?_)
      · refine sx_iload_n d_K_wholeDays_39 rfl ?_
        refine sx_if_eq (tgt := 47) d_K_wholeDays_40 (by decide) ⟨by decide, by decide⟩ (fun c40_50 => ?_) (fun c40_50 => ?_)
        · refine sx_iload_n d_K_wholeDays_47 rfl ?_
          refine sx_iconst d_K_wholeDays_48 ?_
          refine sx_isub d_K_wholeDays_49 ?_
          refine sx_aload_n d_K_wholeDays_50 rfl ?_
          refine sx_getI (z := (M (14 + w) 4)) d_K_wholeDays_51 fl_K_9 (go_w _ hw) (by decide) (by decide) (by decide) rfl ?_
          refine sx_idiv d_K_wholeDays_54 ⟨by omega, by omega⟩ (hR _ _) (by omega) ?_
          refine sx_retI d_K_wholeDays_55 (Or.inl rfl) ⟨by decide, by decide⟩ ?_
          refine ⟨?_, rfl⟩
          congr 2
          first | omega | (unfold wh; first | (rw [if_pos (by omega), Int.tdiv_eq_ediv_of_nonneg (by omega)]) | (rw [if_neg (by omega), Int.tdiv_eq_ediv_of_nonneg (by omega)]))
        · refine sx_iload_n d_K_wholeDays_43 rfl ?_
          refine sx_goto (tgt := 50) d_K_wholeDays_44 (by decide) ?_
          refine sx_aload_n d_K_wholeDays_50 rfl ?_
          refine sx_getI (z := (M (14 + w) 4)) d_K_wholeDays_51 fl_K_9 (go_w _ hw) (by decide) (by decide) (by decide) rfl ?_
          refine sx_idiv d_K_wholeDays_54 ⟨by omega, by omega⟩ (hR _ _) (by omega) ?_
          refine sx_retI d_K_wholeDays_55 (Or.inl rfl) ⟨by decide, by decide⟩ ?_
          refine ⟨?_, rfl⟩
          congr 2
          first | omega | (unfold wh; first | (rw [if_pos (by omega), Int.tdiv_eq_ediv_of_nonneg (by omega)]) | (rw [if_neg (by omega), Int.tdiv_eq_ediv_of_nonneg (by omega)]))
      · refine sx_iconst d_K_wholeDays_35 ?_
        refine sx_goto (tgt := 55) d_K_wholeDays_36 (by decide) ?_
        refine sx_retI d_K_wholeDays_55 (Or.inl rfl) ⟨by decide, by decide⟩ ?_
        refine ⟨?_, rfl⟩
        congr 2
        first | omega | (unfold wh; first | (rw [if_pos (by omega), Int.tdiv_eq_ediv_of_nonneg (by omega)]) | (rw [if_neg (by omega), Int.tdiv_eq_ediv_of_nonneg (by omega)]))
    · refine sx_iload_n d_K_wholeDays_8 rfl ?_
      refine sx_aload_n d_K_wholeDays_9 rfl ?_
      refine sx_getI (z := (M (14 + w) 3)) d_K_wholeDays_10 fl_K_27 (go_w _ hw) (by decide) (by decide) (by decide) rfl ?_
      refine sx_aload_n d_K_wholeDays_13 rfl ?_
      refine sx_getI (z := (M (14 + w) 2)) d_K_wholeDays_14 fl_K_30 (go_w _ hw) (by decide) (by decide) (by decide) rfl ?_
      refine sx_isub d_K_wholeDays_17 ?_
      refine sx_icmp_ge (tgt := 25) d_K_wholeDays_18 (by decide) ⟨by omega, by omega⟩ hft (fun c18_82 => ?_) (fun c18_82 => ?_)
      · refine sx_iconst d_K_wholeDays_25 ?_
        refine sx_istore_n (l' := [some (sx_p (14 + w)), some (.inl x), some (.inl lv), some (.inl 0)]) d_K_wholeDays_26 (by decide) rfl rfl ?_
        refine sx_aload_n d_K_wholeDays_27 rfl ?_
        refine sx_getI (z := (M (14 + w) 4)) d_K_wholeDays_28 fl_K_9 (go_w _ hw) (by decide) (by decide) (by decide) rfl ?_
        refine sx_iconst d_K_wholeDays_31 ?_
        refine sx_icmp_ge (tgt := 39) d_K_wholeDays_32 (by decide) (hR _ _) ⟨by decide, by decide⟩ (fun c32_88 => ?_) (fun c32_88 => ?_)
        · refine sx_iload_n d_K_wholeDays_39 rfl ?_
          refine sx_if_eq (tgt := 47) d_K_wholeDays_40 (by decide) ⟨by decide, by decide⟩ (fun c40_90 => ?_) (fun c40_90 => ?_)
          · refine sx_iload_n d_K_wholeDays_47 rfl ?_
            refine sx_iconst d_K_wholeDays_48 ?_
            refine sx_isub d_K_wholeDays_49 ?_
            refine sx_aload_n d_K_wholeDays_50 rfl ?_
            refine sx_getI (z := (M (14 + w) 4)) d_K_wholeDays_51 fl_K_9 (go_w _ hw) (by decide) (by decide) (by decide) rfl ?_
            refine sx_idiv d_K_wholeDays_54 ⟨by omega, by omega⟩ (hR _ _) (by omega) ?_
            refine sx_retI d_K_wholeDays_55 (Or.inl rfl) ⟨by decide, by decide⟩ ?_
            refine ⟨?_, rfl⟩
            congr 2
            first | omega | (unfold wh; first | (rw [if_pos (by omega), Int.tdiv_eq_ediv_of_nonneg (by omega)]) | (rw [if_neg (by omega), Int.tdiv_eq_ediv_of_nonneg (by omega)]))
          · refine sx_iload_n d_K_wholeDays_43 rfl ?_
            refine sx_goto (tgt := 50) d_K_wholeDays_44 (by decide) ?_
            refine sx_aload_n d_K_wholeDays_50 rfl ?_
            refine sx_getI (z := (M (14 + w) 4)) d_K_wholeDays_51 fl_K_9 (go_w _ hw) (by decide) (by decide) (by decide) rfl ?_
            refine sx_idiv d_K_wholeDays_54 ⟨by omega, by omega⟩ (hR _ _) (by omega) ?_
            refine sx_retI d_K_wholeDays_55 (Or.inl rfl) ⟨by decide, by decide⟩ ?_
            refine ⟨?_, rfl⟩
            congr 2
            first | omega | (unfold wh; first | (rw [if_pos (by omega), Int.tdiv_eq_ediv_of_nonneg (by omega)]) | (rw [if_neg (by omega), Int.tdiv_eq_ediv_of_nonneg (by omega)]))
        · refine sx_iconst d_K_wholeDays_35 ?_
          refine sx_goto (tgt := 55) d_K_wholeDays_36 (by decide) ?_
          refine sx_retI d_K_wholeDays_55 (Or.inl rfl) ⟨by decide, by decide⟩ ?_
          refine ⟨?_, rfl⟩
          congr 2
          first | omega | (unfold wh; first | (rw [if_pos (by omega), Int.tdiv_eq_ediv_of_nonneg (by omega)]) | (rw [if_neg (by omega), Int.tdiv_eq_ediv_of_nonneg (by omega)]))
      · refine sx_iconst d_K_wholeDays_21 ?_
        refine sx_goto (tgt := 26) d_K_wholeDays_22 (by decide) ?_
        refine sx_istore_n (l' := [some (sx_p (14 + w)), some (.inl x), some (.inl lv), some (.inl 1)]) d_K_wholeDays_26 (by decide) rfl rfl ?_
        refine sx_aload_n d_K_wholeDays_27 rfl ?_
        refine sx_getI (z := (M (14 + w) 4)) d_K_wholeDays_28 fl_K_9 (go_w _ hw) (by decide) (by decide) (by decide) rfl ?_
        refine sx_iconst d_K_wholeDays_31 ?_
        refine sx_icmp_ge (tgt := 39) d_K_wholeDays_32 (by decide) (hR _ _) ⟨by decide, by decide⟩ (fun c32_122 => ?_) (fun c32_122 => ?_)
        · refine sx_iload_n d_K_wholeDays_39 rfl ?_
          refine sx_if_eq (tgt := 47) d_K_wholeDays_40 (by decide) ⟨by decide, by decide⟩ (fun c40_124 => ?_) (fun c40_124 => ?_)
          · refine sx_iload_n d_K_wholeDays_47 rfl ?_
            refine sx_iconst d_K_wholeDays_48 ?_
            refine sx_isub d_K_wholeDays_49 ?_
            refine sx_aload_n d_K_wholeDays_50 rfl ?_
            refine sx_getI (z := (M (14 + w) 4)) d_K_wholeDays_51 fl_K_9 (go_w _ hw) (by decide) (by decide) (by decide) rfl ?_
            refine sx_idiv d_K_wholeDays_54 ⟨by omega, by omega⟩ (hR _ _) (by omega) ?_
            refine sx_retI d_K_wholeDays_55 (Or.inl rfl) ⟨by decide, by decide⟩ ?_
            refine ⟨?_, rfl⟩
            congr 2
            first | omega | (unfold wh; first | (rw [if_pos (by omega), Int.tdiv_eq_ediv_of_nonneg (by omega)]) | (rw [if_neg (by omega), Int.tdiv_eq_ediv_of_nonneg (by omega)]))
          · refine sx_iload_n d_K_wholeDays_43 rfl ?_
            refine sx_goto (tgt := 50) d_K_wholeDays_44 (by decide) ?_
            refine sx_aload_n d_K_wholeDays_50 rfl ?_
            refine sx_getI (z := (M (14 + w) 4)) d_K_wholeDays_51 fl_K_9 (go_w _ hw) (by decide) (by decide) (by decide) rfl ?_
            refine sx_idiv d_K_wholeDays_54 ⟨by omega, by omega⟩ (hR _ _) (by omega) ?_
            refine sx_retI d_K_wholeDays_55 (Or.inl rfl) ⟨by decide, by decide⟩ ?_
            refine ⟨?_, rfl⟩
            congr 2
            first | omega | (unfold wh; first | (rw [if_pos (by omega), Int.tdiv_eq_ediv_of_nonneg (by omega)]) | (rw [if_neg (by omega), Int.tdiv_eq_ediv_of_nonneg (by omega)]))
        · refine sx_iconst d_K_wholeDays_35 ?_
          refine sx_goto (tgt := 55) d_K_wholeDays_36 (by decide) ?_
          refine sx_retI d_K_wholeDays_55 (Or.inl rfl) ⟨by decide, by decide⟩ ?_
          refine ⟨?_, rfl⟩
          congr 2
          first | omega | (unfold wh; first | (rw [if_pos (by omega), Int.tdiv_eq_ediv_of_nonneg (by omega)]) | (rw [if_neg (by omega), Int.tdiv_eq_ediv_of_nonneg (by omega)]))
set_option maxRecDepth 100000 in
set_option maxHeartbeats 4000000 in
theorem c_K_setSpeed {L : Nat} {xs : Nat → Int32} (M : Nat → Nat → Int) (hR : IR M) (w : Nat) (hw : w < 6) (p : Int) (hp : sx_r p) (hft : 0 ≤ M (14 + w) 3 - M (14 + w) 2 ∧ M (14 + w) 3 - M (14 + w) 2 ≤ 200) : sx_R y_K_setSpeed (1, 0, 0) L xs [sx_p (14 + w), .inl p] (gm M) (fun v h2 => v = none ∧ h2 = gm (sx_u (sx_u M (14 + w) 4 (if 1 < (if p < 50 then p else 50) then (if p < 50 then p else 50) else 1)) (14 + w) 5 ((M (14 + w) 3 - M (14 + w) 2 + (if 1 < (if p < 50 then p else 50) then (if p < 50 then p else 50) else 1) - 1) / (if 1 < (if p < 50 then p else 50) then (if p < 50 then p else 50) else 1)))) := by
  refine sx_enter rfl (Nat.le_of_ble_eq_true rfl) rfl ?_
  show sx_V y_K_setSpeed (1, 0, 0) L xs (0, 0) 0 [some (sx_p (14 + w)), some (.inl p)] [] (gm M) _
  refine sx_aload_n d_K_setSpeed_0 rfl ?_
  refine sx_iconst d_K_setSpeed_1 ?_
  refine sx_bipush d_K_setSpeed_2 (by decide) ?_
  refine sx_iload_n d_K_setSpeed_4 rfl ?_
  refine sx_mmin d_K_setSpeed_5 tw_364 tw_365 tw_11 tw_366 (by decide) (Nat.le_of_ble_eq_true rfl) ⟨by decide, by decide⟩ hp ⟨by decide, by decide⟩ ?_
  refine sx_mmax d_K_setSpeed_8 tw_367 tw_368 tw_11 tw_369 (by decide) (Nat.le_of_ble_eq_true rfl) ⟨by decide, by decide⟩ ⟨by split <;> (try split) <;> omega, by split <;> (try split) <;> omega⟩ ⟨by decide, by decide⟩ ?_
  refine sx_putI (h2 := gm (sx_u M (14 + w) 4 (if 1 < (if p < 50 then p else 50) then (if p < 50 then p else 50) else 1))) d_K_setSpeed_11 fl_K_9 (go_w _ hw) (by decide) (by decide) (by decide) (fun q hq => Or.inl (nf_K_4 q hq)) (Or.inl rfl) rfl ?_
  refine sx_aload_n d_K_setSpeed_14 rfl ?_
  refine sx_aload_n d_K_setSpeed_15 rfl ?_
  refine sx_getI (z := (if 1 < (if p < 50 then p else 50) then (if p < 50 then p else 50) else 1)) d_K_setSpeed_16 fl_K_9 (go_w _ hw) (by decide) (by decide) (by decide) sx_us ?_
  refine sx_iconst d_K_setSpeed_19 ?_
  refine sx_icmp_ge (tgt := 27) d_K_setSpeed_20 (by decide) ⟨by split <;> (try split) <;> omega, by split <;> (try split) <;> omega⟩ ⟨by decide, by decide⟩ (fun c20_16 => ?_) (fun c20_16 => ?_)
  · refine sx_aload_n d_K_setSpeed_27 rfl ?_
    refine sx_getI (z := (M (14 + w) 3)) d_K_setSpeed_28 fl_K_27 (go_w _ hw) (by decide) (by decide) (by decide) (by simp [gm, sx_u]) ?_
    refine sx_aload_n d_K_setSpeed_31 rfl ?_
    refine sx_getI (z := (M (14 + w) 2)) d_K_setSpeed_32 fl_K_30 (go_w _ hw) (by decide) (by decide) (by decide) (by simp [gm, sx_u]) ?_
    refine sx_isub d_K_setSpeed_35 ?_
    refine sx_aload_n d_K_setSpeed_36 rfl ?_
    refine sx_getI (z := (if 1 < (if p < 50 then p else 50) then (if p < 50 then p else 50) else 1)) d_K_setSpeed_37 fl_K_9 (go_w _ hw) (by decide) (by decide) (by decide) sx_us ?_
    refine sx_iadd d_K_setSpeed_40 ?_
    refine sx_iconst d_K_setSpeed_41 ?_
    refine sx_isub d_K_setSpeed_42 ?_
    refine sx_aload_n d_K_setSpeed_43 rfl ?_
    refine sx_getI (z := (if 1 < (if p < 50 then p else 50) then (if p < 50 then p else 50) else 1)) d_K_setSpeed_44 fl_K_9 (go_w _ hw) (by decide) (by decide) (by decide) sx_us ?_
    refine sx_idiv d_K_setSpeed_47 ⟨by split <;> (try split) <;> omega, by split <;> (try split) <;> omega⟩ ⟨by split <;> (try split) <;> omega, by split <;> (try split) <;> omega⟩ (by split <;> (try split) <;> omega) ?_
    refine sx_putI (h2 := gm (sx_u (sx_u M (14 + w) 4 (if 1 < (if p < 50 then p else 50) then (if p < 50 then p else 50) else 1)) (14 + w) 5 (Int.tdiv ((((M (14 + w) 3) - (M (14 + w) 2)) + (if 1 < (if p < 50 then p else 50) then (if p < 50 then p else 50) else 1)) - 1) (if 1 < (if p < 50 then p else 50) then (if p < 50 then p else 50) else 1)))) d_K_setSpeed_48 fl_K_33 (go_w _ hw) (by decide) (by decide) (by decide) (fun q hq => Or.inl (nf_K_5 q hq)) (Or.inl rfl) rfl ?_
    refine sx_retV d_K_setSpeed_51 rfl ⟨by decide, by decide⟩ ?_
    refine ⟨rfl, ?_⟩
    first | (exfalso; split at * <;> omega) | (rw [Int.tdiv_eq_ediv_of_nonneg (by split <;> (try split) <;> omega)])
  · refine sx_iconst d_K_setSpeed_23 ?_
    refine sx_goto (tgt := 48) d_K_setSpeed_24 (by decide) ?_
    refine sx_putI (h2 := gm (sx_u (sx_u M (14 + w) 4 (if 1 < (if p < 50 then p else 50) then (if p < 50 then p else 50) else 1)) (14 + w) 5 0)) d_K_setSpeed_48 fl_K_33 (go_w _ hw) (by decide) (by decide) (by decide) (fun q hq => Or.inl (nf_K_5 q hq)) (Or.inl rfl) rfl ?_
    refine sx_retV d_K_setSpeed_51 rfl ⟨by decide, by decide⟩ ?_
    refine ⟨rfl, ?_⟩
    first | (exfalso; split at * <;> omega) | (rw [Int.tdiv_eq_ediv_of_nonneg (by split <;> (try split) <;> omega)])
set_option maxRecDepth 100000 in
set_option maxHeartbeats 4000000 in
theorem c_P_put {L : Nat} {xs : Nat → Int32} (M : Nat → Nat → Int) (a b c : Nat) (ho : ∀ M, sx_o (gm M) a 2 2) (hb : ∀ M, sx_o (gm M) b 100 6) (hc : ∀ M, sx_o (gm M) c 100 6) (hab : ∀ M, (gm M).2.2.2 a 0 = some b) (hac : ∀ M, (gm M).2.2.2 a 1 = some c) (w : Nat) (hw : w < 6) (s d : Int) : sx_R y_P_put (1, 0, 0) L xs [sx_p a, .inl (w : Int), .inl s, .inl d] (gm M) (fun v h2 => v = none ∧ h2 = gm (sx_u (sx_u M b w s) c w d)) := by
  refine sx_enter rfl (Nat.le_of_ble_eq_true rfl) rfl ?_
  show sx_V y_P_put (1, 0, 0) L xs (0, 0) 0 [some (sx_p a), some (.inl (w : Int)), some (.inl s), some (.inl d)] [] (gm M) _
  refine sx_iload_n d_P_put_0 rfl ?_
  refine sx_iconst d_P_put_1 ?_
  refine sx_iconst d_P_put_2 ?_
  refine sx_callS (c_isWithin M (w : Int) 0 5 ⟨by omega, by omega⟩ ⟨by decide, by decide⟩ ⟨by decide, by decide⟩) d_P_put_3 cd_T_isWithin lk_P_18 st_T_isWithin (st := []) rfl rfl (Nat.le_of_ble_eq_true rfl) ⟨by decide, by decide, by decide⟩ (fun _ _ hq => ?_)
  obtain ⟨rfl, rfl⟩ := hq
  show sx_V _ _ _ _ (0, 0) _ _ [.inl (if 0 ≤ (w : Int) ∧ (w : Int) ≤ 5 then 1 else 0)] (gm M) _
  refine sx_if_eq (tgt := 23) d_P_put_6 (by decide) ⟨by split <;> omega, by split <;> omega⟩ (fun c6_11 => ?_) (fun c6_11 => ?_)
  · exact absurd c6_11 (by rw [if_pos (by omega)]; decide)
  · refine sx_aload_n d_P_put_9 rfl ?_
    refine sx_getR (r := some (b)) d_P_put_10 fl_P_9 (ho _) (by decide) (by decide) (by decide) (hab _) ?_
    refine sx_iload_n d_P_put_13 rfl ?_
    refine sx_iload_n d_P_put_14 rfl ?_
    refine sx_iast (h2 := gm (sx_u M b w s)) d_P_put_15 (hb _) (by omega) (by omega) (by decide) rfl ?_
    refine sx_aload_n d_P_put_16 rfl ?_
    refine sx_getR (r := some (c)) d_P_put_17 fl_P_15 (ho _) (by decide) (by decide) (by decide) (hac _) ?_
    refine sx_iload_n d_P_put_20 rfl ?_
    refine sx_iload_n d_P_put_21 rfl ?_
    refine sx_iast (h2 := gm (sx_u (sx_u M b w s) c w d)) d_P_put_22 (hc _) (by omega) (by omega) (by decide) rfl ?_
    refine sx_retV d_P_put_23 rfl ⟨by decide, by decide⟩ ?_
    exact ⟨rfl, rfl⟩
set_option maxRecDepth 100000 in
set_option maxHeartbeats 4000000 in
theorem c_P_isElse {L : Nat} {xs : Nat → Int32} (M : Nat → Nat → Int) (hR : IR M) (a b c : Nat) (ho : ∀ M, sx_o (gm M) a 2 2) (hb : ∀ M, sx_o (gm M) b 100 6) (hc : ∀ M, sx_o (gm M) c 100 6) (hab : ∀ M, (gm M).2.2.2 a 0 = some b) (hac : ∀ M, (gm M).2.2.2 a 1 = some c) (w : Nat) (hw : w < 6) (s d : Int) (hs : sx_r s) (hd : sx_r d) : sx_R y_P_isElsewhere (1, 0, 0) L xs [sx_p a, .inl (w : Int), .inl s, .inl d] (gm M) (fun v h2 => v = some (.inl (if M b w = s ∧ M c w = d then 0 else 1)) ∧ h2 = gm M) := by
  refine sx_enter rfl (Nat.le_of_ble_eq_true rfl) rfl ?_
  show sx_V y_P_isElsewhere (1, 0, 0) L xs (0, 0) 0 [some (sx_p a), some (.inl (w : Int)), some (.inl s), some (.inl d)] [] (gm M) _
  refine sx_iload_n d_P_isElsewhere_0 rfl ?_
  refine sx_iconst d_P_isElsewhere_1 ?_
  refine sx_iconst d_P_isElsewhere_2 ?_
  refine sx_callS (c_isWithin M (w : Int) 0 5 ⟨by omega, by omega⟩ ⟨by decide, by decide⟩ ⟨by decide, by decide⟩) d_P_isElsewhere_3 cd_T_isWithin lk_P_18 st_T_isWithin (st := []) rfl rfl (Nat.le_of_ble_eq_true rfl) ⟨by decide, by decide, by decide⟩ (fun _ _ hq => ?_)
  obtain ⟨rfl, rfl⟩ := hq
  show sx_V _ _ _ _ (0, 0) _ _ [.inl (if 0 ≤ (w : Int) ∧ (w : Int) ≤ 5 then 1 else 0)] (gm M) _
  refine sx_if_eq (tgt := 33) d_P_isElsewhere_6 (by decide) ⟨by split <;> omega, by split <;> omega⟩ (fun c6_11 => ?_) (fun c6_11 => ?_)
  · exact absurd c6_11 (by rw [if_pos (by omega)]; decide)
  · refine sx_aload_n d_P_isElsewhere_9 rfl ?_
    refine sx_getR (r := some (b)) d_P_isElsewhere_10 fl_P_9 (ho _) (by decide) (by decide) (by decide) (hab _) ?_
    refine sx_iload_n d_P_isElsewhere_13 rfl ?_
    refine sx_iald (z := (M b w)) d_P_isElsewhere_14 (hb _) (by omega) (by omega) (by decide) rfl ?_
    refine sx_iload_n d_P_isElsewhere_15 rfl ?_
    refine sx_icmp_ne (tgt := 29) d_P_isElsewhere_16 (by decide) (hR _ _) hs (fun c16_18 => ?_) (fun c16_18 => ?_)
    · refine sx_iconst d_P_isElsewhere_29 ?_
      refine sx_goto (tgt := 34) d_P_isElsewhere_30 (by decide) ?_
      refine sx_retI d_P_isElsewhere_34 (Or.inr ⟨rfl, by first | exact Or.inl rfl | exact Or.inr rfl | omega⟩) ⟨by decide, by decide⟩ ?_
      refine ⟨?_, rfl⟩
      congr 2
      first | rw [if_pos (by omega)] | rw [if_neg (by omega)]
    · refine sx_aload_n d_P_isElsewhere_19 rfl ?_
      refine sx_getR (r := some (c)) d_P_isElsewhere_20 fl_P_15 (ho _) (by decide) (by decide) (by decide) (hac _) ?_
      refine sx_iload_n d_P_isElsewhere_23 rfl ?_
      refine sx_iald (z := (M c w)) d_P_isElsewhere_24 (hc _) (by omega) (by omega) (by decide) rfl ?_
      refine sx_iload_n d_P_isElsewhere_25 rfl ?_
      refine sx_icmp_eq (tgt := 33) d_P_isElsewhere_26 (by decide) (hR _ _) hd (fun c26_30 => ?_) (fun c26_30 => ?_)
      · refine sx_iconst d_P_isElsewhere_33 ?_
        refine sx_retI d_P_isElsewhere_34 (Or.inr ⟨rfl, by first | exact Or.inl rfl | exact Or.inr rfl | omega⟩) ⟨by decide, by decide⟩ ?_
        refine ⟨?_, rfl⟩
        congr 2
        first | rw [if_pos (by omega)] | rw [if_neg (by omega)]
      · refine sx_iconst d_P_isElsewhere_29 ?_
        refine sx_goto (tgt := 34) d_P_isElsewhere_30 (by decide) ?_
        refine sx_retI d_P_isElsewhere_34 (Or.inr ⟨rfl, by first | exact Or.inl rfl | exact Or.inr rfl | omega⟩) ⟨by decide, by decide⟩ ?_
        refine ⟨?_, rfl⟩
        congr 2
        first | rw [if_pos (by omega)] | rw [if_neg (by omega)]
end
