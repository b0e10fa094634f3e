-- ===== PART A: goes FIRST, ahead of the names: the tables' words, and 'selects' of the private methods out of them =====
/-- a private method of a class that the tables say can be made, by its rows of tables_1 -/
def lw_okq (q : MethodName × Nat) : Prop := (q.1.cls ≠ "java/lang/invoke/MethodHandle" ∧ q.1.cls ≠ "java/lang/invoke/VarHandle") ∧ Cond.instantiable q.1.cls q.2 ∈ tables_1 ∧ Cond.privateMethod q.1 ∈ tables_1 ∧ Cond.instanceMethod q.1 ∈ tables_1
theorem lw_p0 : lw_okq (⟨"CommonUnits$Text", "signAt", "(I)I"⟩, 2) := ⟨⟨by decide +kernel, by decide +kernel⟩, List.mem_of_getElem? (i := 22) (by decide +kernel), List.mem_of_getElem? (i := 189) (by decide +kernel), List.mem_of_getElem? (i := 190) (by decide +kernel)⟩
theorem lw_p1 : lw_okq (⟨"CommonUnits$Text", "digitAt", "(I)I"⟩, 2) := ⟨⟨by decide +kernel, by decide +kernel⟩, List.mem_of_getElem? (i := 22) (by decide +kernel), List.mem_of_getElem? (i := 193) (by decide +kernel), List.mem_of_getElem? (i := 194) (by decide +kernel)⟩
theorem lw_p2 : lw_okq (⟨"CommonUnits$Text", "readPart", "(ILCommonUnits$Hoard;)I"⟩, 2) := ⟨⟨by decide +kernel, by decide +kernel⟩, List.mem_of_getElem? (i := 22) (by decide +kernel), List.mem_of_getElem? (i := 201) (by decide +kernel), List.mem_of_getElem? (i := 202) (by decide +kernel)⟩
theorem lw_p3 : lw_okq (⟨"CommonUnits$Text", "numberFault", "(I)I"⟩, 2) := ⟨⟨by decide +kernel, by decide +kernel⟩, List.mem_of_getElem? (i := 22) (by decide +kernel), List.mem_of_getElem? (i := 205) (by decide +kernel), List.mem_of_getElem? (i := 206) (by decide +kernel)⟩
theorem lw_p4 : lw_okq (⟨"CommonUnits$Text", "numberAt", "(I)I"⟩, 2) := ⟨⟨by decide +kernel, by decide +kernel⟩, List.mem_of_getElem? (i := 22) (by decide +kernel), List.mem_of_getElem? (i := 209) (by decide +kernel), List.mem_of_getElem? (i := 210) (by decide +kernel)⟩
theorem lw_p5 : lw_okq (⟨"CommonUnits$Hoard", "mintFor", "(II)I"⟩, 8) := ⟨⟨by decide +kernel, by decide +kernel⟩, List.mem_of_getElem? (i := 37) (by decide +kernel), List.mem_of_getElem? (i := 255) (by decide +kernel), List.mem_of_getElem? (i := 256) (by decide +kernel)⟩
theorem lw_p6 : lw_okq (⟨"CommonUnits", "act", "(III)I"⟩, 10) := ⟨⟨by decide +kernel, by decide +kernel⟩, List.mem_of_getElem? (i := 14) (by decide +kernel), List.mem_of_getElem? (i := 304) (by decide +kernel), List.mem_of_getElem? (i := 305) (by decide +kernel)⟩
theorem lw_p7 : lw_okq (⟨"CommonUnits", "surveyNow", "()LCommonUnits$Survey;"⟩, 10) := ⟨⟨by decide +kernel, by decide +kernel⟩, List.mem_of_getElem? (i := 14) (by decide +kernel), List.mem_of_getElem? (i := 380) (by decide +kernel), List.mem_of_getElem? (i := 381) (by decide +kernel)⟩
theorem lw_p8 : lw_okq (⟨"CommonUnits$Survey", "fillColumn", "(III)V"⟩, 11) := ⟨⟨by decide +kernel, by decide +kernel⟩, List.mem_of_getElem? (i := 384) (by decide +kernel), List.mem_of_getElem? (i := 434) (by decide +kernel), List.mem_of_getElem? (i := 435) (by decide +kernel)⟩
theorem lw_p9 : lw_okq (⟨"CommonUnits$Survey", "keyOf", "(I)I"⟩, 11) := ⟨⟨by decide +kernel, by decide +kernel⟩, List.mem_of_getElem? (i := 384) (by decide +kernel), List.mem_of_getElem? (i := 445) (by decide +kernel), List.mem_of_getElem? (i := 446) (by decide +kernel)⟩
theorem lw_p10 : lw_okq (⟨"CommonUnits$Survey", "sort", "()V"⟩, 11) := ⟨⟨by decide +kernel, by decide +kernel⟩, List.mem_of_getElem? (i := 384) (by decide +kernel), List.mem_of_getElem? (i := 458) (by decide +kernel), List.mem_of_getElem? (i := 459) (by decide +kernel)⟩
theorem lw_p11 : lw_okq (⟨"CommonUnits$Survey", "bestUnit", "()I"⟩, 11) := ⟨⟨by decide +kernel, by decide +kernel⟩, List.mem_of_getElem? (i := 384) (by decide +kernel), List.mem_of_getElem? (i := 470) (by decide +kernel), List.mem_of_getElem? (i := 471) (by decide +kernel)⟩
theorem lw_p12 : lw_okq (⟨"CommonUnits$Survey", "countedColumns", "()I"⟩, 11) := ⟨⟨by decide +kernel, by decide +kernel⟩, List.mem_of_getElem? (i := 384) (by decide +kernel), List.mem_of_getElem? (i := 474) (by decide +kernel), List.mem_of_getElem? (i := 475) (by decide +kernel)⟩
theorem lw_p13 : lw_okq (⟨"CommonUnits$Survey", "leastWith", "(I)I"⟩, 11) := ⟨⟨by decide +kernel, by decide +kernel⟩, List.mem_of_getElem? (i := 384) (by decide +kernel), List.mem_of_getElem? (i := 478) (by decide +kernel), List.mem_of_getElem? (i := 479) (by decide +kernel)⟩
theorem lw_p14 : lw_okq (⟨"CommonUnits$Survey", "width", "()I"⟩, 11) := ⟨⟨by decide +kernel, by decide +kernel⟩, List.mem_of_getElem? (i := 384) (by decide +kernel), List.mem_of_getElem? (i := 483) (by decide +kernel), List.mem_of_getElem? (i := 484) (by decide +kernel)⟩
theorem lw_p15 : lw_okq (⟨"CommonUnits$Survey", "jointLack", "(IIII)I"⟩, 11) := ⟨⟨by decide +kernel, by decide +kernel⟩, List.mem_of_getElem? (i := 384) (by decide +kernel), List.mem_of_getElem? (i := 487) (by decide +kernel), List.mem_of_getElem? (i := 488) (by decide +kernel)⟩
def lw_privs_1 : List (MethodName × Nat) := [(⟨"CommonUnits$Text", "signAt", "(I)I"⟩, 2), (⟨"CommonUnits$Text", "digitAt", "(I)I"⟩, 2), (⟨"CommonUnits$Text", "readPart", "(ILCommonUnits$Hoard;)I"⟩, 2), (⟨"CommonUnits$Text", "numberFault", "(I)I"⟩, 2), (⟨"CommonUnits$Text", "numberAt", "(I)I"⟩, 2), (⟨"CommonUnits$Hoard", "mintFor", "(II)I"⟩, 8), (⟨"CommonUnits", "act", "(III)I"⟩, 10), (⟨"CommonUnits", "surveyNow", "()LCommonUnits$Survey;"⟩, 10), (⟨"CommonUnits$Survey", "fillColumn", "(III)V"⟩, 11), (⟨"CommonUnits$Survey", "keyOf", "(I)I"⟩, 11), (⟨"CommonUnits$Survey", "sort", "()V"⟩, 11), (⟨"CommonUnits$Survey", "bestUnit", "()I"⟩, 11), (⟨"CommonUnits$Survey", "countedColumns", "()I"⟩, 11), (⟨"CommonUnits$Survey", "leastWith", "(I)I"⟩, 11), (⟨"CommonUnits$Survey", "width", "()I"⟩, 11), (⟨"CommonUnits$Survey", "jointLack", "(IIII)I"⟩, 11)]
theorem lw_r1 : ∀ q ∈ lw_privs_1, lw_okq q := List.forall_mem_cons.mpr ⟨lw_p0, List.forall_mem_cons.mpr ⟨lw_p1, List.forall_mem_cons.mpr ⟨lw_p2, List.forall_mem_cons.mpr ⟨lw_p3, List.forall_mem_cons.mpr ⟨lw_p4, List.forall_mem_cons.mpr ⟨lw_p5, List.forall_mem_cons.mpr ⟨lw_p6, List.forall_mem_cons.mpr ⟨lw_p7, List.forall_mem_cons.mpr ⟨lw_p8, List.forall_mem_cons.mpr ⟨lw_p9, List.forall_mem_cons.mpr ⟨lw_p10, List.forall_mem_cons.mpr ⟨lw_p11, List.forall_mem_cons.mpr ⟨lw_p12, List.forall_mem_cons.mpr ⟨lw_p13, List.forall_mem_cons.mpr ⟨lw_p14, List.forall_mem_cons.mpr ⟨lw_p15, fun _ h => absurd h List.not_mem_nil⟩⟩⟩⟩⟩⟩⟩⟩⟩⟩⟩⟩⟩⟩⟩⟩
theorem lw_p16 : lw_okq (⟨"CommonUnits$Survey", "findUpper", "(II)V"⟩, 11) := ⟨⟨by decide +kernel, by decide +kernel⟩, List.mem_of_getElem? (i := 384) (by decide +kernel), List.mem_of_getElem? (i := 492) (by decide +kernel), List.mem_of_getElem? (i := 493) (by decide +kernel)⟩
theorem lw_p17 : lw_okq (⟨"CommonUnits$Hoard", "lackOf", "(II)I"⟩, 8) := ⟨⟨by decide +kernel, by decide +kernel⟩, List.mem_of_getElem? (i := 37) (by decide +kernel), List.mem_of_getElem? (i := 522) (by decide +kernel), List.mem_of_getElem? (i := 523) (by decide +kernel)⟩
theorem lw_p18 : lw_okq (⟨"CommonUnits$Crowd", "markSubsets", "()V"⟩, 3) := ⟨⟨by decide +kernel, by decide +kernel⟩, List.mem_of_getElem? (i := 103) (by decide +kernel), List.mem_of_getElem? (i := 569) (by decide +kernel), List.mem_of_getElem? (i := 570) (by decide +kernel)⟩
theorem lw_p19 : lw_okq (⟨"CommonUnits$Crowd", "fillValues", "()V"⟩, 3) := ⟨⟨by decide +kernel, by decide +kernel⟩, List.mem_of_getElem? (i := 103) (by decide +kernel), List.mem_of_getElem? (i := 573) (by decide +kernel), List.mem_of_getElem? (i := 574) (by decide +kernel)⟩
theorem lw_p20 : lw_okq (⟨"CommonUnitsModel", "readHoard", "()I"⟩, 28) := ⟨⟨by decide +kernel, by decide +kernel⟩, List.mem_of_getElem? (i := 637) (by decide +kernel), List.mem_of_getElem? (i := 744) (by decide +kernel), List.mem_of_getElem? (i := 745) (by decide +kernel)⟩
theorem lw_p21 : lw_okq (⟨"CommonUnitsModel", "isFigure", "(III)Z"⟩, 28) := ⟨⟨by decide +kernel, by decide +kernel⟩, List.mem_of_getElem? (i := 637) (by decide +kernel), List.mem_of_getElem? (i := 748) (by decide +kernel), List.mem_of_getElem? (i := 749) (by decide +kernel)⟩
theorem lw_p22 : lw_okq (⟨"CommonUnitsModel", "canStand", "(III)Z"⟩, 28) := ⟨⟨by decide +kernel, by decide +kernel⟩, List.mem_of_getElem? (i := 637) (by decide +kernel), List.mem_of_getElem? (i := 752) (by decide +kernel), List.mem_of_getElem? (i := 753) (by decide +kernel)⟩
theorem lw_p23 : lw_okq (⟨"CommonUnitsModel", "three", "(I)I"⟩, 28) := ⟨⟨by decide +kernel, by decide +kernel⟩, List.mem_of_getElem? (i := 637) (by decide +kernel), List.mem_of_getElem? (i := 756) (by decide +kernel), List.mem_of_getElem? (i := 757) (by decide +kernel)⟩
theorem lw_p24 : lw_okq (⟨"CommonUnitsModel", "noCoin", "(I)Z"⟩, 28) := ⟨⟨by decide +kernel, by decide +kernel⟩, List.mem_of_getElem? (i := 637) (by decide +kernel), List.mem_of_getElem? (i := 771) (by decide +kernel), List.mem_of_getElem? (i := 772) (by decide +kernel)⟩
theorem lw_p25 : lw_okq (⟨"CommonUnitsModel", "ofMint", "([II)I"⟩, 28) := ⟨⟨by decide +kernel, by decide +kernel⟩, List.mem_of_getElem? (i := 637) (by decide +kernel), List.mem_of_getElem? (i := 778) (by decide +kernel), List.mem_of_getElem? (i := 779) (by decide +kernel)⟩
theorem lw_p26 : lw_okq (⟨"CommonUnitsModel", "mintOf", "([III)I"⟩, 28) := ⟨⟨by decide +kernel, by decide +kernel⟩, List.mem_of_getElem? (i := 637) (by decide +kernel), List.mem_of_getElem? (i := 782) (by decide +kernel), List.mem_of_getElem? (i := 783) (by decide +kernel)⟩
theorem lw_p27 : lw_okq (⟨"CommonUnitsModel", "manyMints", "([II)I"⟩, 28) := ⟨⟨by decide +kernel, by decide +kernel⟩, List.mem_of_getElem? (i := 637) (by decide +kernel), List.mem_of_getElem? (i := 789) (by decide +kernel), List.mem_of_getElem? (i := 790) (by decide +kernel)⟩
theorem lw_p28 : lw_okq (⟨"CommonUnitsModel", "noMint", "(I)Z"⟩, 28) := ⟨⟨by decide +kernel, by decide +kernel⟩, List.mem_of_getElem? (i := 637) (by decide +kernel), List.mem_of_getElem? (i := 800) (by decide +kernel), List.mem_of_getElem? (i := 801) (by decide +kernel)⟩
theorem lw_p29 : lw_okq (⟨"CommonUnitsModel", "change", "(II)I"⟩, 28) := ⟨⟨by decide +kernel, by decide +kernel⟩, List.mem_of_getElem? (i := 637) (by decide +kernel), List.mem_of_getElem? (i := 816) (by decide +kernel), List.mem_of_getElem? (i := 817) (by decide +kernel)⟩
theorem lw_p30 : lw_okq (⟨"CommonUnitsModel", "note", "()V"⟩, 28) := ⟨⟨by decide +kernel, by decide +kernel⟩, List.mem_of_getElem? (i := 637) (by decide +kernel), List.mem_of_getElem? (i := 820) (by decide +kernel), List.mem_of_getElem? (i := 821) (by decide +kernel)⟩
theorem lw_p31 : lw_okq (⟨"CommonUnitsModel", "layFitting", "([I)V"⟩, 28) := ⟨⟨by decide +kernel, by decide +kernel⟩, List.mem_of_getElem? (i := 637) (by decide +kernel), List.mem_of_getElem? (i := 868) (by decide +kernel), List.mem_of_getElem? (i := 869) (by decide +kernel)⟩
def lw_privs_2 : List (MethodName × Nat) := [(⟨"CommonUnits$Survey", "findUpper", "(II)V"⟩, 11), (⟨"CommonUnits$Hoard", "lackOf", "(II)I"⟩, 8), (⟨"CommonUnits$Crowd", "markSubsets", "()V"⟩, 3), (⟨"CommonUnits$Crowd", "fillValues", "()V"⟩, 3), (⟨"CommonUnitsModel", "readHoard", "()I"⟩, 28), (⟨"CommonUnitsModel", "isFigure", "(III)Z"⟩, 28), (⟨"CommonUnitsModel", "canStand", "(III)Z"⟩, 28), (⟨"CommonUnitsModel", "three", "(I)I"⟩, 28), (⟨"CommonUnitsModel", "noCoin", "(I)Z"⟩, 28), (⟨"CommonUnitsModel", "ofMint", "([II)I"⟩, 28), (⟨"CommonUnitsModel", "mintOf", "([III)I"⟩, 28), (⟨"CommonUnitsModel", "manyMints", "([II)I"⟩, 28), (⟨"CommonUnitsModel", "noMint", "(I)Z"⟩, 28), (⟨"CommonUnitsModel", "change", "(II)I"⟩, 28), (⟨"CommonUnitsModel", "note", "()V"⟩, 28), (⟨"CommonUnitsModel", "layFitting", "([I)V"⟩, 28)]
theorem lw_r2 : ∀ q ∈ lw_privs_2, lw_okq q := List.forall_mem_cons.mpr ⟨lw_p16, List.forall_mem_cons.mpr ⟨lw_p17, List.forall_mem_cons.mpr ⟨lw_p18, List.forall_mem_cons.mpr ⟨lw_p19, List.forall_mem_cons.mpr ⟨lw_p20, List.forall_mem_cons.mpr ⟨lw_p21, List.forall_mem_cons.mpr ⟨lw_p22, List.forall_mem_cons.mpr ⟨lw_p23, List.forall_mem_cons.mpr ⟨lw_p24, List.forall_mem_cons.mpr ⟨lw_p25, List.forall_mem_cons.mpr ⟨lw_p26, List.forall_mem_cons.mpr ⟨lw_p27, List.forall_mem_cons.mpr ⟨lw_p28, List.forall_mem_cons.mpr ⟨lw_p29, List.forall_mem_cons.mpr ⟨lw_p30, List.forall_mem_cons.mpr ⟨lw_p31, fun _ h => absurd h List.not_mem_nil⟩⟩⟩⟩⟩⟩⟩⟩⟩⟩⟩⟩⟩⟩⟩⟩
theorem lw_p32 : lw_okq (⟨"CommonUnitsModel", "open", "([I)I"⟩, 28) := ⟨⟨by decide +kernel, by decide +kernel⟩, List.mem_of_getElem? (i := 637) (by decide +kernel), List.mem_of_getElem? (i := 872) (by decide +kernel), List.mem_of_getElem? (i := 873) (by decide +kernel)⟩
theorem lw_p33 : lw_okq (⟨"CommonUnitsModel", "lossOf", "(II)I"⟩, 28) := ⟨⟨by decide +kernel, by decide +kernel⟩, List.mem_of_getElem? (i := 637) (by decide +kernel), List.mem_of_getElem? (i := 876) (by decide +kernel), List.mem_of_getElem? (i := 877) (by decide +kernel)⟩
theorem lw_p34 : lw_okq (⟨"CommonUnitsModel", "rankOf", "([II)I"⟩, 28) := ⟨⟨by decide +kernel, by decide +kernel⟩, List.mem_of_getElem? (i := 637) (by decide +kernel), List.mem_of_getElem? (i := 880) (by decide +kernel), List.mem_of_getElem? (i := 881) (by decide +kernel)⟩
theorem lw_p35 : lw_okq (⟨"CommonUnitsModel", "keyOf", "([II)I"⟩, 28) := ⟨⟨by decide +kernel, by decide +kernel⟩, List.mem_of_getElem? (i := 637) (by decide +kernel), List.mem_of_getElem? (i := 884) (by decide +kernel), List.mem_of_getElem? (i := 885) (by decide +kernel)⟩
theorem lw_p36 : lw_okq (⟨"CommonUnitsModel", "layPair", "([I)V"⟩, 28) := ⟨⟨by decide +kernel, by decide +kernel⟩, List.mem_of_getElem? (i := 637) (by decide +kernel), List.mem_of_getElem? (i := 898) (by decide +kernel), List.mem_of_getElem? (i := 899) (by decide +kernel)⟩
theorem lw_p37 : lw_okq (⟨"CommonUnitsModel", "lossOfPair", "(III)I"⟩, 28) := ⟨⟨by decide +kernel, by decide +kernel⟩, List.mem_of_getElem? (i := 637) (by decide +kernel), List.mem_of_getElem? (i := 902) (by decide +kernel), List.mem_of_getElem? (i := 903) (by decide +kernel)⟩
theorem lw_p38 : lw_okq (⟨"CommonUnitsModel", "does", "(I)Z"⟩, 28) := ⟨⟨by decide +kernel, by decide +kernel⟩, List.mem_of_getElem? (i := 637) (by decide +kernel), List.mem_of_getElem? (i := 914) (by decide +kernel), List.mem_of_getElem? (i := 915) (by decide +kernel)⟩
theorem lw_p39 : lw_okq (⟨"CommonUnitsModel", "firstUnit", "([I)I"⟩, 28) := ⟨⟨by decide +kernel, by decide +kernel⟩, List.mem_of_getElem? (i := 637) (by decide +kernel), List.mem_of_getElem? (i := 919) (by decide +kernel), List.mem_of_getElem? (i := 920) (by decide +kernel)⟩
theorem lw_p40 : lw_okq (⟨"CommonUnitsModel", "weigh", "()V"⟩, 28) := ⟨⟨by decide +kernel, by decide +kernel⟩, List.mem_of_getElem? (i := 637) (by decide +kernel), List.mem_of_getElem? (i := 939) (by decide +kernel), List.mem_of_getElem? (i := 940) (by decide +kernel)⟩
theorem lw_p41 : lw_okq (⟨"CommonUnitsModel", "falseOnes", "()I"⟩, 28) := ⟨⟨by decide +kernel, by decide +kernel⟩, List.mem_of_getElem? (i := 637) (by decide +kernel), List.mem_of_getElem? (i := 983) (by decide +kernel), List.mem_of_getElem? (i := 984) (by decide +kernel)⟩
def lw_privs_3 : List (MethodName × Nat) := [(⟨"CommonUnitsModel", "open", "([I)I"⟩, 28), (⟨"CommonUnitsModel", "lossOf", "(II)I"⟩, 28), (⟨"CommonUnitsModel", "rankOf", "([II)I"⟩, 28), (⟨"CommonUnitsModel", "keyOf", "([II)I"⟩, 28), (⟨"CommonUnitsModel", "layPair", "([I)V"⟩, 28), (⟨"CommonUnitsModel", "lossOfPair", "(III)I"⟩, 28), (⟨"CommonUnitsModel", "does", "(I)Z"⟩, 28), (⟨"CommonUnitsModel", "firstUnit", "([I)I"⟩, 28), (⟨"CommonUnitsModel", "weigh", "()V"⟩, 28), (⟨"CommonUnitsModel", "falseOnes", "()I"⟩, 28)]
theorem lw_r3 : ∀ q ∈ lw_privs_3, lw_okq q := List.forall_mem_cons.mpr ⟨lw_p32, List.forall_mem_cons.mpr ⟨lw_p33, List.forall_mem_cons.mpr ⟨lw_p34, List.forall_mem_cons.mpr ⟨lw_p35, List.forall_mem_cons.mpr ⟨lw_p36, List.forall_mem_cons.mpr ⟨lw_p37, List.forall_mem_cons.mpr ⟨lw_p38, List.forall_mem_cons.mpr ⟨lw_p39, List.forall_mem_cons.mpr ⟨lw_p40, List.forall_mem_cons.mpr ⟨lw_p41, fun _ h => absurd h List.not_mem_nil⟩⟩⟩⟩⟩⟩⟩⟩⟩⟩
def lw_privs : List (MethodName × Nat) := lw_privs_1 ++ (lw_privs_2 ++ (lw_privs_3))
def lw_tbl : List Cond := k2_sels lw_privs ++ tables_1
theorem lw_privs_ok : ∀ q ∈ lw_privs, lw_okq q := by
  show ∀ q ∈ lw_privs_1 ++ (lw_privs_2 ++ (lw_privs_3)), lw_okq q
  exact List.forall_mem_append.mpr ⟨lw_r1, List.forall_mem_append.mpr ⟨lw_r2, lw_r3⟩⟩
theorem goodIn_r {big : List Cond} (ws : List Cond) (ps : List Nat) (hp : ws = ps.filterMap (fun i => big[i]?)) (h : ws.all goodWord = true) : GoodIn big ws := by
  intro w hw
  have h1 := List.all_eq_true.mp h w hw
  rw [hp] at hw
  obtain ⟨i, -, hi⟩ := List.mem_filterMap.mp hw
  have hm : w ∈ big := by first | exact List.mem_of_getElem? hi | exact List.getElem?_mem hi
  exact ⟨hm, good_of_word h1⟩
theorem goodIn_app {big a b : List Cond} (ha : GoodIn big a) (hb : GoodIn big b) : GoodIn big (a ++ b) := fun w h => (List.mem_append.mp h).elim (ha w) (hb w)
theorem goodIn_ca {big a b : List Cond} {c : Cond} (ha : GoodIn big (c :: a)) (hb : GoodIn big b) : GoodIn big (c :: (a ++ b)) := fun w h => (List.mem_cons.mp h).elim (fun e => ha w (List.mem_cons.mpr (Or.inl e))) (fun h => (List.mem_append.mp h).elim (fun h => ha w (List.mem_cons.mpr (Or.inr h))) (hb w))
theorem goodIn_sub {big ws : List Cond} (hm : ∀ w ∈ ws, w ∈ big) (h : ws.all goodWord = true) : GoodIn big ws := fun w hw => ⟨hm w hw, good_of_word (List.all_eq_true.mp h w hw)⟩
def RX0 : String := "CommonUnits$Acts"
def TX0 : u_T := fun k => match k with
  | 0 => ("CommonUnits$Acts", "kinds", "[I", true)
  | 1 => ("CommonUnits$Acts", "indexes", "[I", true)
  | 2 => ("CommonUnits$Acts", "befores", "[I", true)
  | 3 => ("CommonUnits$Acts", "next", "I", false)
  | _ => ("CommonUnits$Acts", "size", "I", false)
def tyX0 : Nat → FieldType := fun k => match k with
  | 0 => .array .int
  | 1 => .array .int
  | 2 => .array .int
  | 3 => .int
  | _ => .int
abbrev wsX00 : List Cond := u_ws RX0 TX0 5
theorem nmX0 : ∀ a, a < 5 → ∀ b, b < 5 → a ≠ b → (TX0 a).2.1 ≠ (TX0 b).2.1 := by decide +kernel
theorem tyX0_ok : ∀ k, k < 5 → parseFieldDescriptor (TX0 k).2.2.1 = some (tyX0 k) := by decide +kernel
abbrev cX0_init : ByteArray := prog_2_method_1_code
def yX0_init : MethodName := ⟨RX0, "<init>", "()V"⟩
abbrev cX0_add : ByteArray := prog_2_method_2_code
def yX0_add : MethodName := ⟨RX0, "add", "(III)V"⟩
abbrev cX0_takeBack : ByteArray := prog_2_method_3_code
def yX0_takeBack : MethodName := ⟨RX0, "takeBack", "(LCommonUnits$Hoard;)V"⟩
abbrev cX0_forget : ByteArray := prog_2_method_4_code
def yX0_forget : MethodName := ⟨RX0, "forget", "()V"⟩
def RX1 : String := "CommonUnits$Crowd"
def TX1 : u_T := fun k => match k with
  | 0 => ("CommonUnits$Crowd", "values", "[I", true)
  | 1 => ("CommonUnits$Crowd", "version", "I", false)
  | _ => ("CommonUnits$Crowd", "size", "I", false)
def tyX1 : Nat → FieldType := fun k => match k with
  | 0 => .array .int
  | 1 => .int
  | _ => .int
abbrev wsX10 : List Cond := u_ws RX1 TX1 3
theorem nmX1 : ∀ a, a < 3 → ∀ b, b < 3 → a ≠ b → (TX1 a).2.1 ≠ (TX1 b).2.1 := by decide +kernel
theorem tyX1_ok : ∀ k, k < 3 → parseFieldDescriptor (TX1 k).2.2.1 = some (tyX1 k) := by decide +kernel
abbrev cX1_init : ByteArray := prog_3_method_1_code
def yX1_init : MethodName := ⟨RX1, "<init>", "()V"⟩
abbrev cX1_gather : ByteArray := prog_3_method_2_code
def yX1_gather : MethodName := ⟨RX1, "gather", "(LCommonUnits$Survey;I)V"⟩
abbrev cX1_markSubsets : ByteArray := prog_3_method_3_code
def yX1_markSubsets : MethodName := ⟨RX1, "markSubsets", "()V"⟩
abbrev cX1_fillValues : ByteArray := prog_3_method_4_code
def yX1_fillValues : MethodName := ⟨RX1, "fillValues", "()V"⟩
abbrev cX1_shareOf : ByteArray := prog_3_method_5_code
def yX1_shareOf : MethodName := ⟨RX1, "shareOf", "(IZ)I"⟩
abbrev cX1_factorial : ByteArray := prog_3_method_6_code
def yX1_factorial : MethodName := ⟨RX1, "factorial", "(I)I"⟩
abbrev cX1_chanceOfUnit : ByteArray := prog_3_method_7_code
def yX1_chanceOfUnit : MethodName := ⟨RX1, "chanceOfUnit", "(IZ)I"⟩
abbrev cX1_power : ByteArray := prog_3_method_8_code
def yX1_power : MethodName := ⟨RX1, "power", "(II)I"⟩
abbrev cX1_partOfFraction : ByteArray := prog_3_method_9_code
def yX1_partOfFraction : MethodName := ⟨RX1, "partOfFraction", "(IIZ)I"⟩
def RX2 : String := "CommonUnits$Fit"
def TX2 : u_T := fun k => match k with
  | _ => ("", "", "", false)
def tyX2 : Nat → FieldType := fun k => match k with
  | _ => .int
abbrev wsX20 : List Cond := u_ws RX2 TX2 0
theorem nmX2 : ∀ a, a < 0 → ∀ b, b < 0 → a ≠ b → (TX2 a).2.1 ≠ (TX2 b).2.1 := by decide +kernel
theorem tyX2_ok : ∀ k, k < 0 → parseFieldDescriptor (TX2 k).2.2.1 = some (tyX2 k) := by decide +kernel
abbrev cX2_isUnit : ByteArray := prog_4_method_2_code
def yX2_isUnit : MethodName := ⟨RX2, "isUnit", "(I)Z"⟩
abbrev cX2_multiple : ByteArray := prog_4_method_3_code
def yX2_multiple : MethodName := ⟨RX2, "multiple", "(II)I"⟩
abbrev cX2_loss : ByteArray := prog_4_method_4_code
def yX2_loss : MethodName := ⟨RX2, "loss", "(III)I"⟩
abbrev cX2_reason : ByteArray := prog_4_method_5_code
def yX2_reason : MethodName := ⟨RX2, "reason", "(III)I"⟩
abbrev cX2_excess : ByteArray := prog_4_method_6_code
def yX2_excess : MethodName := ⟨RX2, "excess", "(III)I"⟩
abbrev cX2_lack : ByteArray := prog_4_method_7_code
def yX2_lack : MethodName := ⟨RX2, "lack", "(III)I"⟩
def RX3 : String := "CommonUnits$Hoard"
def TX3 : u_T := fun k => match k with
  | 0 => ("CommonUnits$Hoard", "weights", "[I", true)
  | 1 => ("CommonUnits$Hoard", "years", "[I", true)
  | 2 => ("CommonUnits$Hoard", "asides", "[I", true)
  | 3 => ("CommonUnits$Hoard", "units", "[I", true)
  | 4 => ("CommonUnits$Hoard", "coins", "I", false)
  | 5 => ("CommonUnits$Hoard", "mints", "I", false)
  | 6 => ("CommonUnits$Hoard", "rate", "I", false)
  | _ => ("CommonUnits$Hoard", "law", "I", false)
def tyX3 : Nat → FieldType := fun k => match k with
  | 0 => .array .int
  | 1 => .array .int
  | 2 => .array .int
  | 3 => .array .int
  | 4 => .int
  | 5 => .int
  | 6 => .int
  | _ => .int
abbrev wsX30 : List Cond := u_ws RX3 TX3 8
theorem nmX3 : ∀ a, a < 8 → ∀ b, b < 8 → a ≠ b → (TX3 a).2.1 ≠ (TX3 b).2.1 := by decide +kernel
theorem tyX3_ok : ∀ k, k < 8 → parseFieldDescriptor (TX3 k).2.2.1 = some (tyX3 k) := by decide +kernel
abbrev cX3_init : ByteArray := prog_5_method_1_code
def yX3_init : MethodName := ⟨RX3, "<init>", "()V"⟩
abbrev cX3_copyFrom : ByteArray := prog_5_method_2_code
def yX3_copyFrom : MethodName := ⟨RX3, "copyFrom", "(LCommonUnits$Hoard;)V"⟩
abbrev cX3_start : ByteArray := prog_5_method_3_code
def yX3_start : MethodName := ⟨RX3, "start", "(II)V"⟩
abbrev cX3_addCoin : ByteArray := prog_5_method_4_code
def yX3_addCoin : MethodName := ⟨RX3, "addCoin", "(II)V"⟩
abbrev cX3_addMint : ByteArray := prog_5_method_5_code
def yX3_addMint : MethodName := ⟨RX3, "addMint", "(I)V"⟩
abbrev cX3_hasCoin : ByteArray := prog_5_method_6_code
def yX3_hasCoin : MethodName := ⟨RX3, "hasCoin", "(I)Z"⟩
abbrev cX3_hasMint : ByteArray := prog_5_method_7_code
def yX3_hasMint : MethodName := ⟨RX3, "hasMint", "(I)Z"⟩
abbrev cX3_counts : ByteArray := prog_5_method_8_code
def yX3_counts : MethodName := ⟨RX3, "counts", "(I)Z"⟩
abbrev cX3_counted : ByteArray := prog_5_method_9_code
def yX3_counted : MethodName := ⟨RX3, "counted", "()I"⟩
abbrev cX3_placeOf : ByteArray := prog_5_method_10_code
def yX3_placeOf : MethodName := ⟨RX3, "placeOf", "(I)I"⟩
abbrev cX3_put : ByteArray := prog_5_method_11_code
def yX3_put : MethodName := ⟨RX3, "put", "(III)I"⟩
abbrev cX3_exchange : ByteArray := prog_5_method_12_code
def yX3_exchange : MethodName := ⟨RX3, "exchange", "([IIIIII)I"⟩
abbrev cX3_greatestWear : ByteArray := prog_5_method_13_code
def yX3_greatestWear : MethodName := ⟨RX3, "greatestWear", "(I)I"⟩
abbrev cX3_wearOf : ByteArray := prog_5_method_14_code
def yX3_wearOf : MethodName := ⟨RX3, "wearOf", "(I)I"⟩
abbrev cX3_lossOf : ByteArray := prog_5_method_15_code
def yX3_lossOf : MethodName := ⟨RX3, "lossOf", "(II)I"⟩
abbrev cX3_mintOf : ByteArray := prog_5_method_16_code
def yX3_mintOf : MethodName := ⟨RX3, "mintOf", "(I)I"⟩
abbrev cX3_mintFor : ByteArray := prog_5_method_17_code
def yX3_mintFor : MethodName := ⟨RX3, "mintFor", "(II)I"⟩
abbrev cX3_mintsThatFit : ByteArray := prog_5_method_18_code
def yX3_mintsThatFit : MethodName := ⟨RX3, "mintsThatFit", "(I)I"⟩
abbrev cX3_setAside : ByteArray := prog_5_method_19_code
def yX3_setAside : MethodName := ⟨RX3, "setAside", "()I"⟩
abbrev cX3_setOfMint : ByteArray := prog_5_method_20_code
def yX3_setOfMint : MethodName := ⟨RX3, "setOfMint", "(I)I"⟩
abbrev cX3_explainedBy : ByteArray := prog_5_method_21_code
def yX3_explainedBy : MethodName := ⟨RX3, "explainedBy", "(I)I"⟩
abbrev cX3_lossesOf : ByteArray := prog_5_method_22_code
def yX3_lossesOf : MethodName := ⟨RX3, "lossesOf", "(II)I"⟩
abbrev cX3_bestUnit : ByteArray := prog_5_method_23_code
def yX3_bestUnit : MethodName := ⟨RX3, "bestUnit", "()I"⟩
abbrev cX3_lackOf : ByteArray := prog_5_method_24_code
def yX3_lackOf : MethodName := ⟨RX3, "lackOf", "(II)I"⟩
abbrev cX3_recognizes : ByteArray := prog_5_method_25_code
def yX3_recognizes : MethodName := ⟨RX3, "recognizes", "(I)Z"⟩
def RX4 : String := "CommonUnits$Sightings"
def TX4 : u_T := fun k => match k with
  | 0 => ("CommonUnits$Sightings", "coins", "[I", true)
  | 1 => ("CommonUnits$Sightings", "fitting", "[Z", true)
  | _ => ("CommonUnits$Sightings", "size", "I", false)
def tyX4 : Nat → FieldType := fun k => match k with
  | 0 => .array .int
  | 1 => .array .boolean
  | _ => .int
abbrev wsX40 : List Cond := u_ws RX4 TX4 3
theorem nmX4 : ∀ a, a < 3 → ∀ b, b < 3 → a ≠ b → (TX4 a).2.1 ≠ (TX4 b).2.1 := by decide +kernel
theorem tyX4_ok : ∀ k, k < 3 → parseFieldDescriptor (TX4 k).2.2.1 = some (tyX4 k) := by decide +kernel
abbrev cX4_init : ByteArray := prog_6_method_1_code
def yX4_init : MethodName := ⟨RX4, "<init>", "()V"⟩
abbrev cX4_add : ByteArray := prog_6_method_2_code
def yX4_add : MethodName := ⟨RX4, "add", "(II)I"⟩
abbrev cX4_agreeWith : ByteArray := prog_6_method_3_code
def yX4_agreeWith : MethodName := ⟨RX4, "agreeWith", "(LCommonUnits$Hoard;I)Z"⟩
def RX5 : String := "CommonUnits$Steps"
def TX5 : u_T := fun k => match k with
  | _ => ("", "", "", false)
def tyX5 : Nat → FieldType := fun k => match k with
  | _ => .int
abbrev wsX50 : List Cond := u_ws RX5 TX5 0
theorem nmX5 : ∀ a, a < 0 → ∀ b, b < 0 → a ≠ b → (TX5 a).2.1 ≠ (TX5 b).2.1 := by decide +kernel
theorem tyX5_ok : ∀ k, k < 0 → parseFieldDescriptor (TX5 k).2.2.1 = some (tyX5 k) := by decide +kernel
abbrev cX5_holds : ByteArray := prog_7_method_2_code
def yX5_holds : MethodName := ⟨RX5, "holds", "(LCommonUnits$Hoard;I)Z"⟩
abbrev cX5_turns : ByteArray := prog_7_method_3_code
def yX5_turns : MethodName := ⟨RX5, "turns", "(LCommonUnits$Hoard;I)Z"⟩
abbrev cX5_isOf : ByteArray := prog_7_method_4_code
def yX5_isOf : MethodName := ⟨RX5, "isOf", "(LCommonUnits$Hoard;II)Z"⟩
def RX6 : String := "CommonUnits$Survey"
def TX6 : u_T := fun k => match k with
  | 0 => ("CommonUnits$Survey", "weights", "[I", true)
  | 1 => ("CommonUnits$Survey", "wears", "[I", true)
  | 2 => ("CommonUnits$Survey", "lacks", "[I", true)
  | 3 => ("CommonUnits$Survey", "sums", "[I", true)
  | 4 => ("CommonUnits$Survey", "order", "[I", true)
  | 5 => ("CommonUnits$Survey", "version", "I", false)
  | 6 => ("CommonUnits$Survey", "sortedVersion", "I", false)
  | 7 => ("CommonUnits$Survey", "pairVersion", "I", false)
  | 8 => ("CommonUnits$Survey", "lower", "I", false)
  | 9 => ("CommonUnits$Survey", "upper", "I", false)
  | _ => ("CommonUnits$Survey", "pairLack", "I", false)
def tyX6 : Nat → FieldType := fun k => match k with
  | 0 => .array .int
  | 1 => .array .int
  | 2 => .array .int
  | 3 => .array .int
  | 4 => .array .int
  | 5 => .int
  | 6 => .int
  | 7 => .int
  | 8 => .int
  | 9 => .int
  | _ => .int
abbrev wsX60 : List Cond := u_ws RX6 TX6 11
theorem nmX6 : ∀ a, a < 11 → ∀ b, b < 11 → a ≠ b → (TX6 a).2.1 ≠ (TX6 b).2.1 := by decide +kernel
theorem tyX6_ok : ∀ k, k < 11 → parseFieldDescriptor (TX6 k).2.2.1 = some (tyX6 k) := by decide +kernel
abbrev cX6_init : ByteArray := prog_8_method_1_code
def yX6_init : MethodName := ⟨RX6, "<init>", "()V"⟩
abbrev cX6_look : ByteArray := prog_8_method_2_code
def yX6_look : MethodName := ⟨RX6, "look", "(LCommonUnits$Hoard;)V"⟩
abbrev cX6_fillColumn : ByteArray := prog_8_method_3_code
def yX6_fillColumn : MethodName := ⟨RX6, "fillColumn", "(III)V"⟩
abbrev cX6_rankOf : ByteArray := prog_8_method_4_code
def yX6_rankOf : MethodName := ⟨RX6, "rankOf", "(I)I"⟩
abbrev cX6_keyOf : ByteArray := prog_8_method_5_code
def yX6_keyOf : MethodName := ⟨RX6, "keyOf", "(I)I"⟩
abbrev cX6_unitOfRank : ByteArray := prog_8_method_6_code
def yX6_unitOfRank : MethodName := ⟨RX6, "unitOfRank", "(I)I"⟩
abbrev cX6_sort : ByteArray := prog_8_method_7_code
def yX6_sort : MethodName := ⟨RX6, "sort", "()V"⟩
abbrev cX6_findPair : ByteArray := prog_8_method_8_code
def yX6_findPair : MethodName := ⟨RX6, "findPair", "()V"⟩
abbrev cX6_findUpper : ByteArray := prog_8_method_9_code
def yX6_findUpper : MethodName := ⟨RX6, "findUpper", "(II)V"⟩
abbrev cX6_bestUnit : ByteArray := prog_8_method_10_code
def yX6_bestUnit : MethodName := ⟨RX6, "bestUnit", "()I"⟩
abbrev cX6_leastWith : ByteArray := prog_8_method_11_code
def yX6_leastWith : MethodName := ⟨RX6, "leastWith", "(I)I"⟩
abbrev cX6_jointLack : ByteArray := prog_8_method_12_code
def yX6_jointLack : MethodName := ⟨RX6, "jointLack", "(IIII)I"⟩
abbrev cX6_countedColumns : ByteArray := prog_8_method_13_code
def yX6_countedColumns : MethodName := ⟨RX6, "countedColumns", "()I"⟩
abbrev cX6_width : ByteArray := prog_8_method_14_code
def yX6_width : MethodName := ⟨RX6, "width", "()I"⟩
abbrev cX6_placesBy : ByteArray := prog_8_method_15_code
def yX6_placesBy : MethodName := ⟨RX6, "placesBy", "(I)I"⟩
def RX7 : String := "CommonUnits$Text"
def TX7 : u_T := fun k => match k with
  | 0 => ("CommonUnits$Text", "signs", "[I", true)
  | _ => ("CommonUnits$Text", "length", "I", false)
def tyX7 : Nat → FieldType := fun k => match k with
  | 0 => .array .int
  | _ => .int
abbrev wsX70 : List Cond := u_ws RX7 TX7 2
theorem nmX7 : ∀ a, a < 2 → ∀ b, b < 2 → a ≠ b → (TX7 a).2.1 ≠ (TX7 b).2.1 := by decide +kernel
theorem tyX7_ok : ∀ k, k < 2 → parseFieldDescriptor (TX7 k).2.2.1 = some (tyX7 k) := by decide +kernel
abbrev cX7_init : ByteArray := prog_9_method_1_code
def yX7_init : MethodName := ⟨RX7, "<init>", "()V"⟩
abbrev cX7_append : ByteArray := prog_9_method_2_code
def yX7_append : MethodName := ⟨RX7, "append", "(I)I"⟩
abbrev cX7_readInto : ByteArray := prog_9_method_3_code
def yX7_readInto : MethodName := ⟨RX7, "readInto", "(LCommonUnits$Hoard;)I"⟩
abbrev cX7_readPart : ByteArray := prog_9_method_4_code
def yX7_readPart : MethodName := ⟨RX7, "readPart", "(ILCommonUnits$Hoard;)I"⟩
abbrev cX7_numberFault : ByteArray := prog_9_method_5_code
def yX7_numberFault : MethodName := ⟨RX7, "numberFault", "(I)I"⟩
abbrev cX7_numberAt : ByteArray := prog_9_method_6_code
def yX7_numberAt : MethodName := ⟨RX7, "numberAt", "(I)I"⟩
abbrev cX7_digitAt : ByteArray := prog_9_method_7_code
def yX7_digitAt : MethodName := ⟨RX7, "digitAt", "(I)I"⟩
abbrev cX7_signAt : ByteArray := prog_9_method_8_code
def yX7_signAt : MethodName := ⟨RX7, "signAt", "(I)I"⟩
def RX8 : String := "CommonUnits"
def TX8 : u_T := fun k => match k with
  | 0 => ("CommonUnits", "text", "LCommonUnits$Text;", true)
  | 1 => ("CommonUnits", "now", "LCommonUnits$Hoard;", true)
  | 2 => ("CommonUnits", "spare", "LCommonUnits$Hoard;", true)
  | 3 => ("CommonUnits", "acts", "LCommonUnits$Acts;", true)
  | 4 => ("CommonUnits", "crowd", "LCommonUnits$Crowd;", true)
  | 5 => ("CommonUnits", "sightings", "LCommonUnits$Sightings;", true)
  | 6 => ("CommonUnits", "slots", "[LCommonUnits$Hoard;", true)
  | 7 => ("CommonUnits", "filled", "[Z", true)
  | 8 => ("CommonUnits", "survey", "LCommonUnits$Survey;", false)
  | _ => ("CommonUnits", "state", "J", false)
def tyX8 : Nat → FieldType := fun k => match k with
  | 0 => .object "CommonUnits$Text"
  | 1 => .object "CommonUnits$Hoard"
  | 2 => .object "CommonUnits$Hoard"
  | 3 => .object "CommonUnits$Acts"
  | 4 => .object "CommonUnits$Crowd"
  | 5 => .object "CommonUnits$Sightings"
  | 6 => .array (.object "CommonUnits$Hoard")
  | 7 => .array .boolean
  | 8 => .object "CommonUnits$Survey"
  | _ => .long
abbrev wsX80 : List Cond := u_ws RX8 TX8 10
theorem nmX8 : ∀ a, a < 10 → ∀ b, b < 10 → a ≠ b → (TX8 a).2.1 ≠ (TX8 b).2.1 := by decide +kernel
theorem tyX8_ok : ∀ k, k < 10 → parseFieldDescriptor (TX8 k).2.2.1 = some (tyX8 k) := by decide +kernel
abbrev cX8_init : ByteArray := prog_1_method_1_code
def yX8_init : MethodName := ⟨RX8, "<init>", "()V"⟩
abbrev cX8_write : ByteArray := prog_1_method_2_code
def yX8_write : MethodName := ⟨RX8, "write", "(I)I"⟩
abbrev cX8_wipe : ByteArray := prog_1_method_3_code
def yX8_wipe : MethodName := ⟨RX8, "wipe", "()I"⟩
abbrev cX8_fault : ByteArray := prog_1_method_4_code
def yX8_fault : MethodName := ⟨RX8, "fault", "()I"⟩
abbrev cX8_hoard : ByteArray := prog_1_method_5_code
def yX8_hoard : MethodName := ⟨RX8, "hoard", "()I"⟩
abbrev cX8_coin : ByteArray := prog_1_method_6_code
def yX8_coin : MethodName := ⟨RX8, "coin", "(II)I"⟩
abbrev cX8_mint : ByteArray := prog_1_method_7_code
def yX8_mint : MethodName := ⟨RX8, "mint", "(II)I"⟩
abbrev cX8_clean : ByteArray := prog_1_method_8_code
def yX8_clean : MethodName := ⟨RX8, "clean", "(II)I"⟩
abbrev cX8_date : ByteArray := prog_1_method_9_code
def yX8_date : MethodName := ⟨RX8, "date", "(II)I"⟩
abbrev cX8_aside : ByteArray := prog_1_method_10_code
def yX8_aside : MethodName := ⟨RX8, "aside", "(I)I"⟩
abbrev cX8_strike : ByteArray := prog_1_method_11_code
def yX8_strike : MethodName := ⟨RX8, "strike", "(II)I"⟩
abbrev cX8_setRate : ByteArray := prog_1_method_12_code
def yX8_setRate : MethodName := ⟨RX8, "setRate", "(I)I"⟩
abbrev cX8_setLaw : ByteArray := prog_1_method_13_code
def yX8_setLaw : MethodName := ⟨RX8, "setLaw", "(I)I"⟩
abbrev cX8_undo : ByteArray := prog_1_method_14_code
def yX8_undo : MethodName := ⟨RX8, "undo", "()I"⟩
abbrev cX8_act : ByteArray := prog_1_method_15_code
def yX8_act : MethodName := ⟨RX8, "act", "(III)I"⟩
abbrev cX8_fits : ByteArray := prog_1_method_16_code
def yX8_fits : MethodName := ⟨RX8, "fits", "(III)I"⟩
abbrev cX8_chain : ByteArray := prog_1_method_17_code
def yX8_chain : MethodName := ⟨RX8, "chain", "(II)I"⟩
abbrev cX8_unit : ByteArray := prog_1_method_18_code
def yX8_unit : MethodName := ⟨RX8, "unit", "(II)I"⟩
abbrev cX8_ranked : ByteArray := prog_1_method_19_code
def yX8_ranked : MethodName := ⟨RX8, "ranked", "(I)I"⟩
abbrev cX8_pair : ByteArray := prog_1_method_20_code
def yX8_pair : MethodName := ⟨RX8, "pair", "(I)I"⟩
abbrev cX8_surveyNow : ByteArray := prog_1_method_21_code
def yX8_surveyNow : MethodName := ⟨RX8, "surveyNow", "()LCommonUnits$Survey;"⟩
abbrev cX8_judge : ByteArray := prog_1_method_22_code
def yX8_judge : MethodName := ⟨RX8, "judge", "(IJ)I"⟩
abbrev cX8_see : ByteArray := prog_1_method_23_code
def yX8_see : MethodName := ⟨RX8, "see", "(II)I"⟩
abbrev cX8_unsee : ByteArray := prog_1_method_24_code
def yX8_unsee : MethodName := ⟨RX8, "unsee", "()I"⟩
abbrev cX8_which : ByteArray := prog_1_method_25_code
def yX8_which : MethodName := ⟨RX8, "which", "(I)I"⟩
abbrev cX8_share : ByteArray := prog_1_method_26_code
def yX8_share : MethodName := ⟨RX8, "share", "(IZ)I"⟩
abbrev cX8_lost : ByteArray := prog_1_method_27_code
def yX8_lost : MethodName := ⟨RX8, "lost", "(IZ)I"⟩
abbrev cX8_seed : ByteArray := prog_1_method_28_code
def yX8_seed : MethodName := ⟨RX8, "seed", "(J)J"⟩
abbrev cX8_drawn : ByteArray := prog_1_method_29_code
def yX8_drawn : MethodName := ⟨RX8, "drawn", "(I)I"⟩
abbrev cX8_keep : ByteArray := prog_1_method_30_code
def yX8_keep : MethodName := ⟨RX8, "keep", "(I)I"⟩
abbrev cX8_again : ByteArray := prog_1_method_31_code
def yX8_again : MethodName := ⟨RX8, "again", "(I)I"⟩
abbrev cX8_count : ByteArray := prog_1_method_32_code
def yX8_count : MethodName := ⟨RX8, "count", "(I)I"⟩
def RX9 : String := "CommonUnitsModel"
def TX9 : u_T := fun k => match k with
  | 0 => ("CommonUnitsModel", "thrown", "I", false)
  | 1 => ("CommonUnitsModel", "text", "[I", true)
  | 2 => ("CommonUnitsModel", "textSize", "I", false)
  | 3 => ("CommonUnitsModel", "coins", "I", false)
  | 4 => ("CommonUnitsModel", "mints", "I", false)
  | 5 => ("CommonUnitsModel", "readCoins", "I", false)
  | 6 => ("CommonUnitsModel", "readMints", "I", false)
  | 7 => ("CommonUnitsModel", "readPage", "[I", true)
  | 8 => ("CommonUnitsModel", "page", "[I", true)
  | 9 => ("CommonUnitsModel", "trial", "[I", true)
  | 10 => ("CommonUnitsModel", "book", "[I", true)
  | 11 => ("CommonUnitsModel", "doings", "I", false)
  | 12 => ("CommonUnitsModel", "kept", "[I", true)
  | 13 => ("CommonUnitsModel", "isKept", "[Z", true)
  | 14 => ("CommonUnitsModel", "seen", "I", false)
  | 15 => ("CommonUnitsModel", "seenCoin", "[I", true)
  | 16 => ("CommonUnitsModel", "seenIs", "[I", true)
  | 17 => ("CommonUnitsModel", "seed", "J", false)
  | 18 => ("CommonUnitsModel", "fitting", "[I", true)
  | 19 => ("CommonUnitsModel", "losing", "[I", true)
  | 20 => ("CommonUnitsModel", "order", "[I", true)
  | 21 => ("CommonUnitsModel", "pairU", "I", false)
  | 22 => ("CommonUnitsModel", "pairV", "I", false)
  | 23 => ("CommonUnitsModel", "pairMany", "I", false)
  | 24 => ("CommonUnitsModel", "pairLoss", "I", false)
  | 25 => ("CommonUnitsModel", "free", "[I", true)
  | 26 => ("CommonUnitsModel", "freeMany", "I", false)
  | _ => ("CommonUnitsModel", "worth", "[I", true)
def tyX9 : Nat → FieldType := fun k => match k with
  | 0 => .int
  | 1 => .array .int
  | 2 => .int
  | 3 => .int
  | 4 => .int
  | 5 => .int
  | 6 => .int
  | 7 => .array .int
  | 8 => .array .int
  | 9 => .array .int
  | 10 => .array .int
  | 11 => .int
  | 12 => .array .int
  | 13 => .array .boolean
  | 14 => .int
  | 15 => .array .int
  | 16 => .array .int
  | 17 => .long
  | 18 => .array .int
  | 19 => .array .int
  | 20 => .array .int
  | 21 => .int
  | 22 => .int
  | 23 => .int
  | 24 => .int
  | 25 => .array .int
  | 26 => .int
  | _ => .array .int
abbrev wsX90 : List Cond := u_ws RX9 TX9 28
theorem nmX9 : ∀ a, a < 28 → ∀ b, b < 28 → a ≠ b → (TX9 a).2.1 ≠ (TX9 b).2.1 := by decide +kernel
theorem tyX9_ok : ∀ k, k < 28 → parseFieldDescriptor (TX9 k).2.2.1 = some (tyX9 k) := by decide +kernel
abbrev cX9_init : ByteArray := prog_11_method_1_code
def yX9_init : MethodName := ⟨RX9, "<init>", "()V"⟩
abbrev cX9_in : ByteArray := prog_11_method_3_code
def yX9_in : MethodName := ⟨RX9, "in", "(JJJ)Z"⟩
abbrev cX9_has : ByteArray := prog_11_method_4_code
def yX9_has : MethodName := ⟨RX9, "has", "(II)Z"⟩
abbrev cX9_ones : ByteArray := prog_11_method_5_code
def yX9_ones : MethodName := ⟨RX9, "ones", "(I)I"⟩
abbrev cX9_power : ByteArray := prog_11_method_6_code
def yX9_power : MethodName := ⟨RX9, "power", "(II)I"⟩
abbrev cX9_noCoin : ByteArray := prog_11_method_7_code
def yX9_noCoin : MethodName := ⟨RX9, "noCoin", "(I)Z"⟩
abbrev cX9_noMint : ByteArray := prog_11_method_8_code
def yX9_noMint : MethodName := ⟨RX9, "noMint", "(I)Z"⟩
abbrev cX9_lay : ByteArray := prog_11_method_9_code
def yX9_lay : MethodName := ⟨RX9, "lay", "([I[I)V"⟩
abbrev cX9_write : ByteArray := prog_11_method_10_code
def yX9_write : MethodName := ⟨RX9, "write", "(I)I"⟩
abbrev cX9_wipe : ByteArray := prog_11_method_11_code
def yX9_wipe : MethodName := ⟨RX9, "wipe", "()I"⟩
abbrev cX9_isFigure : ByteArray := prog_11_method_12_code
def yX9_isFigure : MethodName := ⟨RX9, "isFigure", "(III)Z"⟩
abbrev cX9_canStand : ByteArray := prog_11_method_13_code
def yX9_canStand : MethodName := ⟨RX9, "canStand", "(III)Z"⟩
abbrev cX9_three : ByteArray := prog_11_method_14_code
def yX9_three : MethodName := ⟨RX9, "three", "(I)I"⟩
abbrev cX9_readHoard : ByteArray := prog_11_method_15_code
def yX9_readHoard : MethodName := ⟨RX9, "readHoard", "()I"⟩
abbrev cX9_fault : ByteArray := prog_11_method_16_code
def yX9_fault : MethodName := ⟨RX9, "fault", "()I"⟩
abbrev cX9_hoard : ByteArray := prog_11_method_17_code
def yX9_hoard : MethodName := ⟨RX9, "hoard", "()I"⟩
abbrev cX9_mostOf : ByteArray := prog_11_method_18_code
def yX9_mostOf : MethodName := ⟨RX9, "mostOf", "([II)I"⟩
abbrev cX9_timesOf : ByteArray := prog_11_method_19_code
def yX9_timesOf : MethodName := ⟨RX9, "timesOf", "(III)I"⟩
abbrev cX9_times : ByteArray := prog_11_method_20_code
def yX9_times : MethodName := ⟨RX9, "times", "([III)I"⟩
abbrev cX9_reason : ByteArray := prog_11_method_21_code
def yX9_reason : MethodName := ⟨RX9, "reason", "([III)I"⟩
abbrev cX9_excess : ByteArray := prog_11_method_22_code
def yX9_excess : MethodName := ⟨RX9, "excess", "([III)I"⟩
abbrev cX9_mintOf : ByteArray := prog_11_method_23_code
def yX9_mintOf : MethodName := ⟨RX9, "mintOf", "([III)I"⟩
abbrev cX9_ofMint : ByteArray := prog_11_method_24_code
def yX9_ofMint : MethodName := ⟨RX9, "ofMint", "([II)I"⟩
abbrev cX9_manyMints : ByteArray := prog_11_method_25_code
def yX9_manyMints : MethodName := ⟨RX9, "manyMints", "([II)I"⟩
abbrev cX9_coin : ByteArray := prog_11_method_26_code
def yX9_coin : MethodName := ⟨RX9, "coin", "(II)I"⟩
abbrev cX9_mint : ByteArray := prog_11_method_27_code
def yX9_mint : MethodName := ⟨RX9, "mint", "(II)I"⟩
abbrev cX9_change : ByteArray := prog_11_method_28_code
def yX9_change : MethodName := ⟨RX9, "change", "(II)I"⟩
abbrev cX9_note : ByteArray := prog_11_method_29_code
def yX9_note : MethodName := ⟨RX9, "note", "()V"⟩
abbrev cX9_clean : ByteArray := prog_11_method_30_code
def yX9_clean : MethodName := ⟨RX9, "clean", "(II)I"⟩
abbrev cX9_date : ByteArray := prog_11_method_31_code
def yX9_date : MethodName := ⟨RX9, "date", "(II)I"⟩
abbrev cX9_aside : ByteArray := prog_11_method_32_code
def yX9_aside : MethodName := ⟨RX9, "aside", "(I)I"⟩
abbrev cX9_strike : ByteArray := prog_11_method_33_code
def yX9_strike : MethodName := ⟨RX9, "strike", "(II)I"⟩
abbrev cX9_setRate : ByteArray := prog_11_method_34_code
def yX9_setRate : MethodName := ⟨RX9, "setRate", "(I)I"⟩
abbrev cX9_setLaw : ByteArray := prog_11_method_35_code
def yX9_setLaw : MethodName := ⟨RX9, "setLaw", "(I)I"⟩
abbrev cX9_undo : ByteArray := prog_11_method_36_code
def yX9_undo : MethodName := ⟨RX9, "undo", "()I"⟩
abbrev cX9_fits : ByteArray := prog_11_method_37_code
def yX9_fits : MethodName := ⟨RX9, "fits", "(III)I"⟩
abbrev cX9_chain : ByteArray := prog_11_method_38_code
def yX9_chain : MethodName := ⟨RX9, "chain", "(II)I"⟩
abbrev cX9_layFitting : ByteArray := prog_11_method_39_code
def yX9_layFitting : MethodName := ⟨RX9, "layFitting", "([I)V"⟩
abbrev cX9_lossOf : ByteArray := prog_11_method_40_code
def yX9_lossOf : MethodName := ⟨RX9, "lossOf", "(II)I"⟩
abbrev cX9_open : ByteArray := prog_11_method_41_code
def yX9_open : MethodName := ⟨RX9, "open", "([I)I"⟩
abbrev cX9_keyOf : ByteArray := prog_11_method_42_code
def yX9_keyOf : MethodName := ⟨RX9, "keyOf", "([II)I"⟩
abbrev cX9_rankOf : ByteArray := prog_11_method_43_code
def yX9_rankOf : MethodName := ⟨RX9, "rankOf", "([II)I"⟩
abbrev cX9_firstUnit : ByteArray := prog_11_method_44_code
def yX9_firstUnit : MethodName := ⟨RX9, "firstUnit", "([I)I"⟩
abbrev cX9_unit : ByteArray := prog_11_method_45_code
def yX9_unit : MethodName := ⟨RX9, "unit", "(II)I"⟩
abbrev cX9_ranked : ByteArray := prog_11_method_46_code
def yX9_ranked : MethodName := ⟨RX9, "ranked", "(I)I"⟩
abbrev cX9_lossOfPair : ByteArray := prog_11_method_47_code
def yX9_lossOfPair : MethodName := ⟨RX9, "lossOfPair", "(III)I"⟩
abbrev cX9_layPair : ByteArray := prog_11_method_48_code
def yX9_layPair : MethodName := ⟨RX9, "layPair", "([I)V"⟩
abbrev cX9_pair : ByteArray := prog_11_method_49_code
def yX9_pair : MethodName := ⟨RX9, "pair", "(I)I"⟩
abbrev cX9_longPower : ByteArray := prog_11_method_50_code
def yX9_longPower : MethodName := ⟨RX9, "longPower", "(JI)J"⟩
abbrev cX9_does : ByteArray := prog_11_method_51_code
def yX9_does : MethodName := ⟨RX9, "does", "(I)Z"⟩
abbrev cX9_judge : ByteArray := prog_11_method_52_code
def yX9_judge : MethodName := ⟨RX9, "judge", "(IJ)I"⟩
abbrev cX9_see : ByteArray := prog_11_method_53_code
def yX9_see : MethodName := ⟨RX9, "see", "(II)I"⟩
abbrev cX9_unsee : ByteArray := prog_11_method_54_code
def yX9_unsee : MethodName := ⟨RX9, "unsee", "()I"⟩
abbrev cX9_which : ByteArray := prog_11_method_55_code
def yX9_which : MethodName := ⟨RX9, "which", "(I)I"⟩
abbrev cX9_divisor : ByteArray := prog_11_method_56_code
def yX9_divisor : MethodName := ⟨RX9, "divisor", "(II)I"⟩
abbrev cX9_fraction : ByteArray := prog_11_method_57_code
def yX9_fraction : MethodName := ⟨RX9, "fraction", "(IIZ)I"⟩
abbrev cX9_factorial : ByteArray := prog_11_method_58_code
def yX9_factorial : MethodName := ⟨RX9, "factorial", "(I)I"⟩
abbrev cX9_weigh : ByteArray := prog_11_method_59_code
def yX9_weigh : MethodName := ⟨RX9, "weigh", "()V"⟩
abbrev cX9_share : ByteArray := prog_11_method_60_code
def yX9_share : MethodName := ⟨RX9, "share", "(IZ)I"⟩
abbrev cX9_lost : ByteArray := prog_11_method_61_code
def yX9_lost : MethodName := ⟨RX9, "lost", "(IZ)I"⟩
abbrev cX9_seed : ByteArray := prog_11_method_62_code
def yX9_seed : MethodName := ⟨RX9, "seed", "(J)J"⟩
abbrev cX9_drawn : ByteArray := prog_11_method_63_code
def yX9_drawn : MethodName := ⟨RX9, "drawn", "(I)I"⟩
abbrev cX9_keep : ByteArray := prog_11_method_64_code
def yX9_keep : MethodName := ⟨RX9, "keep", "(I)I"⟩
abbrev cX9_again : ByteArray := prog_11_method_65_code
def yX9_again : MethodName := ⟨RX9, "again", "(I)I"⟩
abbrev cX9_falseOnes : ByteArray := prog_11_method_66_code
def yX9_falseOnes : MethodName := ⟨RX9, "falseOnes", "()I"⟩
abbrev cX9_count : ByteArray := prog_11_method_67_code
def yX9_count : MethodName := ⟨RX9, "count", "(I)I"⟩
def RJ6 : String := "java/lang/Integer"
def TJ6 : u_T := fun k => match k with
  | _ => ("", "", "", false)
def tyJ6 : Nat → FieldType := fun k => match k with
  | _ => .int
abbrev wsJ60 : List Cond := u_ws RJ6 TJ6 0
theorem nmJ6 : ∀ a, a < 0 → ∀ b, b < 0 → a ≠ b → (TJ6 a).2.1 ≠ (TJ6 b).2.1 := by decide +kernel
theorem tyJ6_ok : ∀ k, k < 0 → parseFieldDescriptor (TJ6 k).2.2.1 = some (tyJ6 k) := by decide +kernel
abbrev cJ6_bitCount_0f7a4 : ByteArray := prog_12_method_49_code
def yJ6_bitCount_0f7a4 : MethodName := ⟨RJ6, "bitCount", "(I)I"⟩
def RJ9 : String := "java/lang/Math"
def TJ9 : u_T := fun k => match k with
  | _ => ("", "", "", false)
def tyJ9 : Nat → FieldType := fun k => match k with
  | _ => .int
abbrev wsJ90 : List Cond := u_ws RJ9 TJ9 0
theorem nmJ9 : ∀ a, a < 0 → ∀ b, b < 0 → a ≠ b → (TJ9 a).2.1 ≠ (TJ9 b).2.1 := by decide +kernel
theorem tyJ9_ok : ∀ k, k < 0 → parseFieldDescriptor (TJ9 k).2.2.1 = some (tyJ9 k) := by decide +kernel
abbrev cJ9_max_7cf53 : ByteArray := prog_13_method_65_code
def yJ9_max_7cf53 : MethodName := ⟨RJ9, "max", "(II)I"⟩
abbrev cJ9_max_f86c9 : ByteArray := prog_13_method_66_code
def yJ9_max_f86c9 : MethodName := ⟨RJ9, "max", "(JJ)J"⟩
abbrev cJ9_min_7cf53 : ByteArray := prog_13_method_69_code
def yJ9_min_7cf53 : MethodName := ⟨RJ9, "min", "(II)I"⟩
def RL : String := "CommonUnitsLaw"
abbrev cL_law : ByteArray := code
def yL_law : MethodName := ⟨RL, "law", "([I)Z"⟩
abbrev vwCl : List vw_C := [(RX0, TX0, 5), (RX1, TX1, 3), (RX3, TX3, 8), (RX4, TX4, 3), (RX6, TX6, 11), (RX7, TX7, 2), (RX8, TX8, 10), (RX9, TX9, 28)]
/-- the words of the tables that go with every contract -/
def cu_G : List Cond := lw_tbl.filter goodWord
theorem cu_mem {w : Cond} (i : Nat) (h : lw_tbl[i]? = some w) (hg : goodWord w = true) : w ∈ cu_G := List.mem_filter.mpr ⟨List.mem_of_getElem? h, hg⟩
theorem cu_sub {ws : List Cond} (ps : List Nat) (hp : ws = ps.filterMap (fun i => lw_tbl[i]?)) (h : ws.all goodWord = true) : ∀ w ∈ ws, w ∈ cu_G := fun w hw => by
  have h1 := List.all_eq_true.mp h w hw
  rw [hp] at hw
  obtain ⟨i, -, hi⟩ := List.mem_filterMap.mp hw
  exact cu_mem i hi h1
theorem cu_in {c : Cond} (h : c ∈ cu_G) : GoodIn cu_G (c :: cu_G) := fun w hw => by
  have hm : w ∈ cu_G := by
    rcases List.mem_cons.mp hw with rfl | h2
    · exact h
    · exact h2
  exact ⟨hm, good_of_word (List.mem_filter.mp hm).2⟩
theorem cu_iX0 : ∀ w ∈ wsX00, w ∈ cu_G := cu_sub [133, 135, 137, 139, 141] (by decide +kernel) (by decide +kernel)
theorem cu_iX1 : ∀ w ∈ wsX10, w ∈ cu_G := cu_sub [153, 155, 157] (by decide +kernel) (by decide +kernel)
theorem cu_iX3 : ∀ w ∈ wsX30, w ∈ cu_G := cu_sub [104, 106, 108, 110, 112, 114, 116, 118] (by decide +kernel) (by decide +kernel)
theorem cu_iX4 : ∀ w ∈ wsX40, w ∈ cu_G := cu_sub [170, 172, 174] (by decide +kernel) (by decide +kernel)
theorem cu_iX6 : ∀ w ∈ wsX60, w ∈ cu_G := cu_sub [446, 448, 450, 452, 454, 456, 458, 460, 462, 464, 466] (by decide +kernel) (by decide +kernel)
theorem cu_iX7 : ∀ w ∈ wsX70, w ∈ cu_G := cu_sub [72, 74] (by decide +kernel) (by decide +kernel)
theorem cu_iX8 : ∀ w ∈ wsX80, w ∈ cu_G := cu_sub [189, 191, 193, 195, 197, 199, 201, 203, 205, 207] (by decide +kernel) (by decide +kernel)
theorem cu_iX9 : ∀ w ∈ wsX90, w ∈ cu_G := cu_sub [712, 714, 716, 718, 720, 722, 724, 726, 728, 730, 732, 734, 736, 738, 740, 742, 744, 746, 748, 750, 752, 754, 756, 758, 760, 762, 764, 766] (by decide +kernel) (by decide +kernel)
