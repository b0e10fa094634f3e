section
-- ===== PART A: goes FIRST, ahead of the names: the tables' words, and 'selects' of the private methods out of them =====
/-- a private method of a class that the tables say can be made, by its rows of tables_1 -/
def lw_okq (q : MethodName × Nat) : Prop := (q.1.cls ≠ "java/lang/invoke/MethodHandle" ∧ q.1.cls ≠ "java/lang/invoke/VarHandle") ∧ Cond.instantiable q.1.cls q.2 ∈ tables_1 ∧ Cond.privateMethod q.1 ∈ tables_1 ∧ Cond.instanceMethod q.1 ∈ tables_1
theorem lw_p0 : lw_okq (⟨"CommonUnits$Text", "signAt", "(I)I"⟩, 2) := ⟨⟨by decide +kernel, by decide +kernel⟩, List.mem_of_getElem? (i := 22) (by decide +kernel), List.mem_of_getElem? (i := 189) (by decide +kernel), List.mem_of_getElem? (i := 190) (by decide +kernel)⟩
theorem lw_p1 : lw_okq (⟨"CommonUnits$Text", "digitAt", "(I)I"⟩, 2) := ⟨⟨by decide +kernel, by decide +kernel⟩, List.mem_of_getElem? (i := 22) (by decide +kernel), List.mem_of_getElem? (i := 193) (by decide +kernel), List.mem_of_getElem? (i := 194) (by decide +kernel)⟩
theorem lw_p2 : lw_okq (⟨"CommonUnits$Text", "readPart", "(ILCommonUnits$Hoard;)I"⟩, 2) := ⟨⟨by decide +kernel, by decide +kernel⟩, List.mem_of_getElem? (i := 22) (by decide +kernel), List.mem_of_getElem? (i := 201) (by decide +kernel), List.mem_of_getElem? (i := 202) (by decide +kernel)⟩
theorem lw_p3 : lw_okq (⟨"CommonUnits$Text", "numberFault", "(I)I"⟩, 2) := ⟨⟨by decide +kernel, by decide +kernel⟩, List.mem_of_getElem? (i := 22) (by decide +kernel), List.mem_of_getElem? (i := 205) (by decide +kernel), List.mem_of_getElem? (i := 206) (by decide +kernel)⟩
theorem lw_p4 : lw_okq (⟨"CommonUnits$Text", "numberAt", "(I)I"⟩, 2) := ⟨⟨by decide +kernel, by decide +kernel⟩, List.mem_of_getElem? (i := 22) (by decide +kernel), List.mem_of_getElem? (i := 209) (by decide +kernel), List.mem_of_getElem? (i := 210) (by decide +kernel)⟩
theorem lw_p5 : lw_okq (⟨"CommonUnits$Hoard", "mintFor", "(II)I"⟩, 8) := ⟨⟨by decide +kernel, by decide +kernel⟩, List.mem_of_getElem? (i := 37) (by decide +kernel), List.mem_of_getElem? (i := 255) (by decide +kernel), List.mem_of_getElem? (i := 256) (by decide +kernel)⟩
theorem lw_p6 : lw_okq (⟨"CommonUnits", "act", "(III)I"⟩, 10) := ⟨⟨by decide +kernel, by decide +kernel⟩, List.mem_of_getElem? (i := 14) (by decide +kernel), List.mem_of_getElem? (i := 304) (by decide +kernel), List.mem_of_getElem? (i := 305) (by decide +kernel)⟩
theorem lw_p7 : lw_okq (⟨"CommonUnits", "surveyNow", "()LCommonUnits$Survey;"⟩, 10) := ⟨⟨by decide +kernel, by decide +kernel⟩, List.mem_of_getElem? (i := 14) (by decide +kernel), List.mem_of_getElem? (i := 380) (by decide +kernel), List.mem_of_getElem? (i := 381) (by decide +kernel)⟩
theorem lw_p8 : lw_okq (⟨"CommonUnits$Survey", "fillColumn", "(III)V"⟩, 11) := ⟨⟨by decide +kernel, by decide +kernel⟩, List.mem_of_getElem? (i := 384) (by decide +kernel), List.mem_of_getElem? (i := 434) (by decide +kernel), List.mem_of_getElem? (i := 435) (by decide +kernel)⟩
theorem lw_p9 : lw_okq (⟨"CommonUnits$Survey", "keyOf", "(I)I"⟩, 11) := ⟨⟨by decide +kernel, by decide +kernel⟩, List.mem_of_getElem? (i := 384) (by decide +kernel), List.mem_of_getElem? (i := 445) (by decide +kernel), List.mem_of_getElem? (i := 446) (by decide +kernel)⟩
theorem lw_p10 : lw_okq (⟨"CommonUnits$Survey", "sort", "()V"⟩, 11) := ⟨⟨by decide +kernel, by decide +kernel⟩, List.mem_of_getElem? (i := 384) (by decide +kernel), List.mem_of_getElem? (i := 458) (by decide +kernel), List.mem_of_getElem? (i := 459) (by decide +kernel)⟩
theorem lw_p11 : lw_okq (⟨"CommonUnits$Survey", "bestUnit", "()I"⟩, 11) := ⟨⟨by decide +kernel, by decide +kernel⟩, List.mem_of_getElem? (i := 384) (by decide +kernel), List.mem_of_getElem? (i := 470) (by decide +kernel), List.mem_of_getElem? (i := 471) (by decide +kernel)⟩
theorem lw_p12 : lw_okq (⟨"CommonUnits$Survey", "countedColumns", "()I"⟩, 11) := ⟨⟨by decide +kernel, by decide +kernel⟩, List.mem_of_getElem? (i := 384) (by decide +kernel), List.mem_of_getElem? (i := 474) (by decide +kernel), List.mem_of_getElem? (i := 475) (by decide +kernel)⟩
theorem lw_p13 : lw_okq (⟨"CommonUnits$Survey", "leastWith", "(I)I"⟩, 11) := ⟨⟨by decide +kernel, by decide +kernel⟩, List.mem_of_getElem? (i := 384) (by decide +kernel), List.mem_of_getElem? (i := 478) (by decide +kernel), List.mem_of_getElem? (i := 479) (by decide +kernel)⟩
theorem lw_p14 : lw_okq (⟨"CommonUnits$Survey", "width", "()I"⟩, 11) := ⟨⟨by decide +kernel, by decide +kernel⟩, List.mem_of_getElem? (i := 384) (by decide +kernel), List.mem_of_getElem? (i := 483) (by decide +kernel), List.mem_of_getElem? (i := 484) (by decide +kernel)⟩
theorem lw_p15 : lw_okq (⟨"CommonUnits$Survey", "jointLack", "(IIII)I"⟩, 11) := ⟨⟨by decide +kernel, by decide +kernel⟩, List.mem_of_getElem? (i := 384) (by decide +kernel), List.mem_of_getElem? (i := 487) (by decide +kernel), List.mem_of_getElem? (i := 488) (by decide +kernel)⟩
def lw_privs_1 : List (MethodName × Nat) := [(⟨"CommonUnits$Text", "signAt", "(I)I"⟩, 2), (⟨"CommonUnits$Text", "digitAt", "(I)I"⟩, 2), (⟨"CommonUnits$Text", "readPart", "(ILCommonUnits$Hoard;)I"⟩, 2), (⟨"CommonUnits$Text", "numberFault", "(I)I"⟩, 2), (⟨"CommonUnits$Text", "numberAt", "(I)I"⟩, 2), (⟨"CommonUnits$Hoard", "mintFor", "(II)I"⟩, 8), (⟨"CommonUnits", "act", "(III)I"⟩, 10), (⟨"CommonUnits", "surveyNow", "()LCommonUnits$Survey;"⟩, 10), (⟨"CommonUnits$Survey", "fillColumn", "(III)V"⟩, 11), (⟨"CommonUnits$Survey", "keyOf", "(I)I"⟩, 11), (⟨"CommonUnits$Survey", "sort", "()V"⟩, 11), (⟨"CommonUnits$Survey", "bestUnit", "()I"⟩, 11), (⟨"CommonUnits$Survey", "countedColumns", "()I"⟩, 11), (⟨"CommonUnits$Survey", "leastWith", "(I)I"⟩, 11), (⟨"CommonUnits$Survey", "width", "()I"⟩, 11), (⟨"CommonUnits$Survey", "jointLack", "(IIII)I"⟩, 11)]
theorem lw_r1 : ∀ q ∈ lw_privs_1, lw_okq q := List.forall_mem_cons.mpr ⟨lw_p0, List.forall_mem_cons.mpr ⟨lw_p1, List.forall_mem_cons.mpr ⟨lw_p2, List.forall_mem_cons.mpr ⟨lw_p3, List.forall_mem_cons.mpr ⟨lw_p4, List.forall_mem_cons.mpr ⟨lw_p5, List.forall_mem_cons.mpr ⟨lw_p6, List.forall_mem_cons.mpr ⟨lw_p7, List.forall_mem_cons.mpr ⟨lw_p8, List.forall_mem_cons.mpr ⟨lw_p9, List.forall_mem_cons.mpr ⟨lw_p10, List.forall_mem_cons.mpr ⟨lw_p11, List.forall_mem_cons.mpr ⟨lw_p12, List.forall_mem_cons.mpr ⟨lw_p13, List.forall_mem_cons.mpr ⟨lw_p14, List.forall_mem_cons.mpr ⟨lw_p15, fun _ h => absurd h List.not_mem_nil⟩⟩⟩⟩⟩⟩⟩⟩⟩⟩⟩⟩⟩⟩⟩⟩
theorem lw_p16 : lw_okq (⟨"CommonUnits$Survey", "findUpper", "(II)V"⟩, 11) := ⟨⟨by decide +kernel, by decide +kernel⟩, List.mem_of_getElem? (i := 384) (by decide +kernel), List.mem_of_getElem? (i := 492) (by decide +kernel), List.mem_of_getElem? (i := 493) (by decide +kernel)⟩
theorem lw_p17 : lw_okq (⟨"CommonUnits$Hoard", "lackOf", "(II)I"⟩, 8) := ⟨⟨by decide +kernel, by decide +kernel⟩, List.mem_of_getElem? (i := 37) (by decide +kernel), List.mem_of_getElem? (i := 522) (by decide +kernel), List.mem_of_getElem? (i := 523) (by decide +kernel)⟩
theorem lw_p18 : lw_okq (⟨"CommonUnits$Crowd", "markSubsets", "()V"⟩, 3) := ⟨⟨by decide +kernel, by decide +kernel⟩, List.mem_of_getElem? (i := 103) (by decide +kernel), List.mem_of_getElem? (i := 569) (by decide +kernel), List.mem_of_getElem? (i := 570) (by decide +kernel)⟩
theorem lw_p19 : lw_okq (⟨"CommonUnits$Crowd", "fillValues", "()V"⟩, 3) := ⟨⟨by decide +kernel, by decide +kernel⟩, List.mem_of_getElem? (i := 103) (by decide +kernel), List.mem_of_getElem? (i := 573) (by decide +kernel), List.mem_of_getElem? (i := 574) (by decide +kernel)⟩
theorem lw_p20 : lw_okq (⟨"CommonUnitsModel", "readHoard", "()I"⟩, 28) := ⟨⟨by decide +kernel, by decide +kernel⟩, List.mem_of_getElem? (i := 637) (by decide +kernel), List.mem_of_getElem? (i := 744) (by decide +kernel), List.mem_of_getElem? (i := 745) (by decide +kernel)⟩
theorem lw_p21 : lw_okq (⟨"CommonUnitsModel", "isFigure", "(III)Z"⟩, 28) := ⟨⟨by decide +kernel, by decide +kernel⟩, List.mem_of_getElem? (i := 637) (by decide +kernel), List.mem_of_getElem? (i := 748) (by decide +kernel), List.mem_of_getElem? (i := 749) (by decide +kernel)⟩
theorem lw_p22 : lw_okq (⟨"CommonUnitsModel", "canStand", "(III)Z"⟩, 28) := ⟨⟨by decide +kernel, by decide +kernel⟩, List.mem_of_getElem? (i := 637) (by decide +kernel), List.mem_of_getElem? (i := 752) (by decide +kernel), List.mem_of_getElem? (i := 753) (by decide +kernel)⟩
theorem lw_p23 : lw_okq (⟨"CommonUnitsModel", "three", "(I)I"⟩, 28) := ⟨⟨by decide +kernel, by decide +kernel⟩, List.mem_of_getElem? (i := 637) (by decide +kernel), List.mem_of_getElem? (i := 756) (by decide +kernel), List.mem_of_getElem? (i := 757) (by decide +kernel)⟩
theorem lw_p24 : lw_okq (⟨"CommonUnitsModel", "noCoin", "(I)Z"⟩, 28) := ⟨⟨by decide +kernel, by decide +kernel⟩, List.mem_of_getElem? (i := 637) (by decide +kernel), List.mem_of_getElem? (i := 771) (by decide +kernel), List.mem_of_getElem? (i := 772) (by decide +kernel)⟩
theorem lw_p25 : lw_okq (⟨"CommonUnitsModel", "ofMint", "([II)I"⟩, 28) := ⟨⟨by decide +kernel, by decide +kernel⟩, List.mem_of_getElem? (i := 637) (by decide +kernel), List.mem_of_getElem? (i := 778) (by decide +kernel), List.mem_of_getElem? (i := 779) (by decide +kernel)⟩
theorem lw_p26 : lw_okq (⟨"CommonUnitsModel", "mintOf", "([III)I"⟩, 28) := ⟨⟨by decide +kernel, by decide +kernel⟩, List.mem_of_getElem? (i := 637) (by decide +kernel), List.mem_of_getElem? (i := 782) (by decide +kernel), List.mem_of_getElem? (i := 783) (by decide +kernel)⟩
theorem lw_p27 : lw_okq (⟨"CommonUnitsModel", "manyMints", "([II)I"⟩, 28) := ⟨⟨by decide +kernel, by decide +kernel⟩, List.mem_of_getElem? (i := 637) (by decide +kernel), List.mem_of_getElem? (i := 789) (by decide +kernel), List.mem_of_getElem? (i := 790) (by decide +kernel)⟩
theorem lw_p28 : lw_okq (⟨"CommonUnitsModel", "noMint", "(I)Z"⟩, 28) := ⟨⟨by decide +kernel, by decide +kernel⟩, List.mem_of_getElem? (i := 637) (by decide +kernel), List.mem_of_getElem? (i := 800) (by decide +kernel), List.mem_of_getElem? (i := 801) (by decide +kernel)⟩
theorem lw_p29 : lw_okq (⟨"CommonUnitsModel", "change", "(II)I"⟩, 28) := ⟨⟨by decide +kernel, by decide +kernel⟩, List.mem_of_getElem? (i := 637) (by decide +kernel), List.mem_of_getElem? (i := 816) (by decide +kernel), List.mem_of_getElem? (i := 817) (by decide +kernel)⟩
theorem lw_p30 : lw_okq (⟨"CommonUnitsModel", "note", "()V"⟩, 28) := ⟨⟨by decide +kernel, by decide +kernel⟩, List.mem_of_getElem? (i := 637) (by decide +kernel), List.mem_of_getElem? (i := 820) (by decide +kernel), List.mem_of_getElem? (i := 821) (by decide +kernel)⟩
theorem lw_p31 : lw_okq (⟨"CommonUnitsModel", "layFitting", "([I)V"⟩, 28) := ⟨⟨by decide +kernel, by decide +kernel⟩, List.mem_of_getElem? (i := 637) (by decide +kernel), List.mem_of_getElem? (i := 868) (by decide +kernel), List.mem_of_getElem? (i := 869) (by decide +kernel)⟩
def lw_privs_2 : List (MethodName × Nat) := [(⟨"CommonUnits$Survey", "findUpper", "(II)V"⟩, 11), (⟨"CommonUnits$Hoard", "lackOf", "(II)I"⟩, 8), (⟨"CommonUnits$Crowd", "markSubsets", "()V"⟩, 3), (⟨"CommonUnits$Crowd", "fillValues", "()V"⟩, 3), (⟨"CommonUnitsModel", "readHoard", "()I"⟩, 28), (⟨"CommonUnitsModel", "isFigure", "(III)Z"⟩, 28), (⟨"CommonUnitsModel", "canStand", "(III)Z"⟩, 28), (⟨"CommonUnitsModel", "three", "(I)I"⟩, 28), (⟨"CommonUnitsModel", "noCoin", "(I)Z"⟩, 28), (⟨"CommonUnitsModel", "ofMint", "([II)I"⟩, 28), (⟨"CommonUnitsModel", "mintOf", "([III)I"⟩, 28), (⟨"CommonUnitsModel", "manyMints", "([II)I"⟩, 28), (⟨"CommonUnitsModel", "noMint", "(I)Z"⟩, 28), (⟨"CommonUnitsModel", "change", "(II)I"⟩, 28), (⟨"CommonUnitsModel", "note", "()V"⟩, 28), (⟨"CommonUnitsModel", "layFitting", "([I)V"⟩, 28)]
theorem lw_r2 : ∀ q ∈ lw_privs_2, lw_okq q := List.forall_mem_cons.mpr ⟨lw_p16, List.forall_mem_cons.mpr ⟨lw_p17, List.forall_mem_cons.mpr ⟨lw_p18, List.forall_mem_cons.mpr ⟨lw_p19, List.forall_mem_cons.mpr ⟨lw_p20, List.forall_mem_cons.mpr ⟨lw_p21, List.forall_mem_cons.mpr ⟨lw_p22, List.forall_mem_cons.mpr ⟨lw_p23, List.forall_mem_cons.mpr ⟨lw_p24, List.forall_mem_cons.mpr ⟨lw_p25, List.forall_mem_cons.mpr ⟨lw_p26, List.forall_mem_cons.mpr ⟨lw_p27, List.forall_mem_cons.mpr ⟨lw_p28, List.forall_mem_cons.mpr ⟨lw_p29, List.forall_mem_cons.mpr ⟨lw_p30, List.forall_mem_cons.mpr ⟨lw_p31, fun _ h => absurd h List.not_mem_nil⟩⟩⟩⟩⟩⟩⟩⟩⟩⟩⟩⟩⟩⟩⟩⟩
theorem lw_p32 : lw_okq (⟨"CommonUnitsModel", "open", "([I)I"⟩, 28) := ⟨⟨by decide +kernel, by decide +kernel⟩, List.mem_of_getElem? (i := 637) (by decide +kernel), List.mem_of_getElem? (i := 872) (by decide +kernel), List.mem_of_getElem? (i := 873) (by decide +kernel)⟩
theorem lw_p33 : lw_okq (⟨"CommonUnitsModel", "lossOf", "(II)I"⟩, 28) := ⟨⟨by decide +kernel, by decide +kernel⟩, List.mem_of_getElem? (i := 637) (by decide +kernel), List.mem_of_getElem? (i := 876) (by decide +kernel), List.mem_of_getElem? (i := 877) (by decide +kernel)⟩
theorem lw_p34 : lw_okq (⟨"CommonUnitsModel", "rankOf", "([II)I"⟩, 28) := ⟨⟨by decide +kernel, by decide +kernel⟩, List.mem_of_getElem? (i := 637) (by decide +kernel), List.mem_of_getElem? (i := 880) (by decide +kernel), List.mem_of_getElem? (i := 881) (by decide +kernel)⟩
theorem lw_p35 : lw_okq (⟨"CommonUnitsModel", "keyOf", "([II)I"⟩, 28) := ⟨⟨by decide +kernel, by decide +kernel⟩, List.mem_of_getElem? (i := 637) (by decide +kernel), List.mem_of_getElem? (i := 884) (by decide +kernel), List.mem_of_getElem? (i := 885) (by decide +kernel)⟩
theorem lw_p36 : lw_okq (⟨"CommonUnitsModel", "layPair", "([I)V"⟩, 28) := ⟨⟨by decide +kernel, by decide +kernel⟩, List.mem_of_getElem? (i := 637) (by decide +kernel), List.mem_of_getElem? (i := 898) (by decide +kernel), List.mem_of_getElem? (i := 899) (by decide +kernel)⟩
theorem lw_p37 : lw_okq (⟨"CommonUnitsModel", "lossOfPair", "(III)I"⟩, 28) := ⟨⟨by decide +kernel, by decide +kernel⟩, List.mem_of_getElem? (i := 637) (by decide +kernel), List.mem_of_getElem? (i := 902) (by decide +kernel), List.mem_of_getElem? (i := 903) (by decide +kernel)⟩
theorem lw_p38 : lw_okq (⟨"CommonUnitsModel", "does", "(I)Z"⟩, 28) := ⟨⟨by decide +kernel, by decide +kernel⟩, List.mem_of_getElem? (i := 637) (by decide +kernel), List.mem_of_getElem? (i := 914) (by decide +kernel), List.mem_of_getElem? (i := 915) (by decide +kernel)⟩
theorem lw_p39 : lw_okq (⟨"CommonUnitsModel", "firstUnit", "([I)I"⟩, 28) := ⟨⟨by decide +kernel, by decide +kernel⟩, List.mem_of_getElem? (i := 637) (by decide +kernel), List.mem_of_getElem? (i := 919) (by decide +kernel), List.mem_of_getElem? (i := 920) (by decide +kernel)⟩
theorem lw_p40 : lw_okq (⟨"CommonUnitsModel", "weigh", "()V"⟩, 28) := ⟨⟨by decide +kernel, by decide +kernel⟩, List.mem_of_getElem? (i := 637) (by decide +kernel), List.mem_of_getElem? (i := 939) (by decide +kernel), List.mem_of_getElem? (i := 940) (by decide +kernel)⟩
theorem lw_p41 : lw_okq (⟨"CommonUnitsModel", "falseOnes", "()I"⟩, 28) := ⟨⟨by decide +kernel, by decide +kernel⟩, List.mem_of_getElem? (i := 637) (by decide +kernel), List.mem_of_getElem? (i := 983) (by decide +kernel), List.mem_of_getElem? (i := 984) (by decide +kernel)⟩
def lw_privs_3 : List (MethodName × Nat) := [(⟨"CommonUnitsModel", "open", "([I)I"⟩, 28), (⟨"CommonUnitsModel", "lossOf", "(II)I"⟩, 28), (⟨"CommonUnitsModel", "rankOf", "([II)I"⟩, 28), (⟨"CommonUnitsModel", "keyOf", "([II)I"⟩, 28), (⟨"CommonUnitsModel", "layPair", "([I)V"⟩, 28), (⟨"CommonUnitsModel", "lossOfPair", "(III)I"⟩, 28), (⟨"CommonUnitsModel", "does", "(I)Z"⟩, 28), (⟨"CommonUnitsModel", "firstUnit", "([I)I"⟩, 28), (⟨"CommonUnitsModel", "weigh", "()V"⟩, 28), (⟨"CommonUnitsModel", "falseOnes", "()I"⟩, 28)]
theorem lw_r3 : ∀ q ∈ lw_privs_3, lw_okq q := List.forall_mem_cons.mpr ⟨lw_p32, List.forall_mem_cons.mpr ⟨lw_p33, List.forall_mem_cons.mpr ⟨lw_p34, List.forall_mem_cons.mpr ⟨lw_p35, List.forall_mem_cons.mpr ⟨lw_p36, List.forall_mem_cons.mpr ⟨lw_p37, List.forall_mem_cons.mpr ⟨lw_p38, List.forall_mem_cons.mpr ⟨lw_p39, List.forall_mem_cons.mpr ⟨lw_p40, List.forall_mem_cons.mpr ⟨lw_p41, fun _ h => absurd h List.not_mem_nil⟩⟩⟩⟩⟩⟩⟩⟩⟩⟩
def lw_privs : List (MethodName × Nat) := lw_privs_1 ++ (lw_privs_2 ++ (lw_privs_3))
def lw_tbl : List Cond := k2_sels lw_privs ++ tables_1
theorem lw_privs_ok : ∀ q ∈ lw_privs, lw_okq q := by
  show ∀ q ∈ lw_privs_1 ++ (lw_privs_2 ++ (lw_privs_3)), lw_okq q
  exact List.forall_mem_append.mpr ⟨lw_r1, List.forall_mem_append.mpr ⟨lw_r2, lw_r3⟩⟩
theorem goodIn_r {big : List Cond} (ws : List Cond) (ps : List Nat) (hp : ws = ps.filterMap (fun i => big[i]?)) (h : ws.all goodWord = true) : GoodIn big ws := by
  intro w hw
  have h1 := List.all_eq_true.mp h w hw
  rw [hp] at hw
  obtain ⟨i, -, hi⟩ := List.mem_filterMap.mp hw
  have hm : w ∈ big := by first | exact List.mem_of_getElem? hi | exact List.getElem?_mem hi
  exact ⟨hm, good_of_word h1⟩
theorem goodIn_app {big a b : List Cond} (ha : GoodIn big a) (hb : GoodIn big b) : GoodIn big (a ++ b) := fun w h => (List.mem_append.mp h).elim (ha w) (hb w)
theorem goodIn_ca {big a b : List Cond} {c : Cond} (ha : GoodIn big (c :: a)) (hb : GoodIn big b) : GoodIn big (c :: (a ++ b)) := fun w h => (List.mem_cons.mp h).elim (fun e => ha w (List.mem_cons.mpr (Or.inl e))) (fun h => (List.mem_append.mp h).elim (fun h => ha w (List.mem_cons.mpr (Or.inr h))) (hb w))
theorem goodIn_sub {big ws : List Cond} (hm : ∀ w ∈ ws, w ∈ big) (h : ws.all goodWord = true) : GoodIn big ws := fun w hw => ⟨hm w hw, good_of_word (List.all_eq_true.mp h w hw)⟩
def RX0 : String := "CommonUnits$Acts"
def TX0 : u_T := fun k => match k with
  | 0 => ("CommonUnits$Acts", "kinds", "[I", true)
  | 1 => ("CommonUnits$Acts", "indexes", "[I", true)
  | 2 => ("CommonUnits$Acts", "befores", "[I", true)
  | 3 => ("CommonUnits$Acts", "next", "I", false)
  | _ => ("CommonUnits$Acts", "size", "I", false)
def tyX0 : Nat → FieldType := fun k => match k with
  | 0 => .array .int
  | 1 => .array .int
  | 2 => .array .int
  | 3 => .int
  | _ => .int
abbrev wsX00 : List Cond := u_ws RX0 TX0 5
theorem nmX0 : ∀ a, a < 5 → ∀ b, b < 5 → a ≠ b → (TX0 a).2.1 ≠ (TX0 b).2.1 := by decide +kernel
theorem tyX0_ok : ∀ k, k < 5 → parseFieldDescriptor (TX0 k).2.2.1 = some (tyX0 k) := by decide +kernel
abbrev cX0_init : ByteArray := prog_2_method_1_code
def yX0_init : MethodName := ⟨RX0, "<init>", "()V"⟩
abbrev cX0_add : ByteArray := prog_2_method_2_code
def yX0_add : MethodName := ⟨RX0, "add", "(III)V"⟩
abbrev cX0_takeBack : ByteArray := prog_2_method_3_code
def yX0_takeBack : MethodName := ⟨RX0, "takeBack", "(LCommonUnits$Hoard;)V"⟩
abbrev cX0_forget : ByteArray := prog_2_method_4_code
def yX0_forget : MethodName := ⟨RX0, "forget", "()V"⟩
def RX1 : String := "CommonUnits$Crowd"
def TX1 : u_T := fun k => match k with
  | 0 => ("CommonUnits$Crowd", "values", "[I", true)
  | 1 => ("CommonUnits$Crowd", "version", "I", false)
  | _ => ("CommonUnits$Crowd", "size", "I", false)
def tyX1 : Nat → FieldType := fun k => match k with
  | 0 => .array .int
  | 1 => .int
  | _ => .int
abbrev wsX10 : List Cond := u_ws RX1 TX1 3
theorem nmX1 : ∀ a, a < 3 → ∀ b, b < 3 → a ≠ b → (TX1 a).2.1 ≠ (TX1 b).2.1 := by decide +kernel
theorem tyX1_ok : ∀ k, k < 3 → parseFieldDescriptor (TX1 k).2.2.1 = some (tyX1 k) := by decide +kernel
abbrev cX1_init : ByteArray := prog_3_method_1_code
def yX1_init : MethodName := ⟨RX1, "<init>", "()V"⟩
abbrev cX1_gather : ByteArray := prog_3_method_2_code
def yX1_gather : MethodName := ⟨RX1, "gather", "(LCommonUnits$Survey;I)V"⟩
abbrev cX1_markSubsets : ByteArray := prog_3_method_3_code
def yX1_markSubsets : MethodName := ⟨RX1, "markSubsets", "()V"⟩
abbrev cX1_fillValues : ByteArray := prog_3_method_4_code
def yX1_fillValues : MethodName := ⟨RX1, "fillValues", "()V"⟩
abbrev cX1_shareOf : ByteArray := prog_3_method_5_code
def yX1_shareOf : MethodName := ⟨RX1, "shareOf", "(IZ)I"⟩
abbrev cX1_factorial : ByteArray := prog_3_method_6_code
def yX1_factorial : MethodName := ⟨RX1, "factorial", "(I)I"⟩
abbrev cX1_chanceOfUnit : ByteArray := prog_3_method_7_code
def yX1_chanceOfUnit : MethodName := ⟨RX1, "chanceOfUnit", "(IZ)I"⟩
abbrev cX1_power : ByteArray := prog_3_method_8_code
def yX1_power : MethodName := ⟨RX1, "power", "(II)I"⟩
abbrev cX1_partOfFraction : ByteArray := prog_3_method_9_code
def yX1_partOfFraction : MethodName := ⟨RX1, "partOfFraction", "(IIZ)I"⟩
def RX2 : String := "CommonUnits$Fit"
def TX2 : u_T := fun k => match k with
  | _ => ("", "", "", false)
def tyX2 : Nat → FieldType := fun k => match k with
  | _ => .int
abbrev wsX20 : List Cond := u_ws RX2 TX2 0
theorem nmX2 : ∀ a, a < 0 → ∀ b, b < 0 → a ≠ b → (TX2 a).2.1 ≠ (TX2 b).2.1 := by decide +kernel
theorem tyX2_ok : ∀ k, k < 0 → parseFieldDescriptor (TX2 k).2.2.1 = some (tyX2 k) := by decide +kernel
abbrev cX2_isUnit : ByteArray := prog_4_method_2_code
def yX2_isUnit : MethodName := ⟨RX2, "isUnit", "(I)Z"⟩
abbrev cX2_multiple : ByteArray := prog_4_method_3_code
def yX2_multiple : MethodName := ⟨RX2, "multiple", "(II)I"⟩
abbrev cX2_loss : ByteArray := prog_4_method_4_code
def yX2_loss : MethodName := ⟨RX2, "loss", "(III)I"⟩
abbrev cX2_reason : ByteArray := prog_4_method_5_code
def yX2_reason : MethodName := ⟨RX2, "reason", "(III)I"⟩
abbrev cX2_excess : ByteArray := prog_4_method_6_code
def yX2_excess : MethodName := ⟨RX2, "excess", "(III)I"⟩
abbrev cX2_lack : ByteArray := prog_4_method_7_code
def yX2_lack : MethodName := ⟨RX2, "lack", "(III)I"⟩
def RX3 : String := "CommonUnits$Hoard"
def TX3 : u_T := fun k => match k with
  | 0 => ("CommonUnits$Hoard", "weights", "[I", true)
  | 1 => ("CommonUnits$Hoard", "years", "[I", true)
  | 2 => ("CommonUnits$Hoard", "asides", "[I", true)
  | 3 => ("CommonUnits$Hoard", "units", "[I", true)
  | 4 => ("CommonUnits$Hoard", "coins", "I", false)
  | 5 => ("CommonUnits$Hoard", "mints", "I", false)
  | 6 => ("CommonUnits$Hoard", "rate", "I", false)
  | _ => ("CommonUnits$Hoard", "law", "I", false)
def tyX3 : Nat → FieldType := fun k => match k with
  | 0 => .array .int
  | 1 => .array .int
  | 2 => .array .int
  | 3 => .array .int
  | 4 => .int
  | 5 => .int
  | 6 => .int
  | _ => .int
abbrev wsX30 : List Cond := u_ws RX3 TX3 8
theorem nmX3 : ∀ a, a < 8 → ∀ b, b < 8 → a ≠ b → (TX3 a).2.1 ≠ (TX3 b).2.1 := by decide +kernel
theorem tyX3_ok : ∀ k, k < 8 → parseFieldDescriptor (TX3 k).2.2.1 = some (tyX3 k) := by decide +kernel
abbrev cX3_init : ByteArray := prog_5_method_1_code
def yX3_init : MethodName := ⟨RX3, "<init>", "()V"⟩
abbrev cX3_copyFrom : ByteArray := prog_5_method_2_code
def yX3_copyFrom : MethodName := ⟨RX3, "copyFrom", "(LCommonUnits$Hoard;)V"⟩
abbrev cX3_start : ByteArray := prog_5_method_3_code
def yX3_start : MethodName := ⟨RX3, "start", "(II)V"⟩
abbrev cX3_addCoin : ByteArray := prog_5_method_4_code
def yX3_addCoin : MethodName := ⟨RX3, "addCoin", "(II)V"⟩
abbrev cX3_addMint : ByteArray := prog_5_method_5_code
def yX3_addMint : MethodName := ⟨RX3, "addMint", "(I)V"⟩
abbrev cX3_hasCoin : ByteArray := prog_5_method_6_code
def yX3_hasCoin : MethodName := ⟨RX3, "hasCoin", "(I)Z"⟩
abbrev cX3_hasMint : ByteArray := prog_5_method_7_code
def yX3_hasMint : MethodName := ⟨RX3, "hasMint", "(I)Z"⟩
abbrev cX3_counts : ByteArray := prog_5_method_8_code
def yX3_counts : MethodName := ⟨RX3, "counts", "(I)Z"⟩
abbrev cX3_counted : ByteArray := prog_5_method_9_code
def yX3_counted : MethodName := ⟨RX3, "counted", "()I"⟩
abbrev cX3_placeOf : ByteArray := prog_5_method_10_code
def yX3_placeOf : MethodName := ⟨RX3, "placeOf", "(I)I"⟩
abbrev cX3_put : ByteArray := prog_5_method_11_code
def yX3_put : MethodName := ⟨RX3, "put", "(III)I"⟩
abbrev cX3_exchange : ByteArray := prog_5_method_12_code
def yX3_exchange : MethodName := ⟨RX3, "exchange", "([IIIIII)I"⟩
abbrev cX3_greatestWear : ByteArray := prog_5_method_13_code
def yX3_greatestWear : MethodName := ⟨RX3, "greatestWear", "(I)I"⟩
abbrev cX3_wearOf : ByteArray := prog_5_method_14_code
def yX3_wearOf : MethodName := ⟨RX3, "wearOf", "(I)I"⟩
abbrev cX3_lossOf : ByteArray := prog_5_method_15_code
def yX3_lossOf : MethodName := ⟨RX3, "lossOf", "(II)I"⟩
abbrev cX3_mintOf : ByteArray := prog_5_method_16_code
def yX3_mintOf : MethodName := ⟨RX3, "mintOf", "(I)I"⟩
abbrev cX3_mintFor : ByteArray := prog_5_method_17_code
def yX3_mintFor : MethodName := ⟨RX3, "mintFor", "(II)I"⟩
abbrev cX3_mintsThatFit : ByteArray := prog_5_method_18_code
def yX3_mintsThatFit : MethodName := ⟨RX3, "mintsThatFit", "(I)I"⟩
abbrev cX3_setAside : ByteArray := prog_5_method_19_code
def yX3_setAside : MethodName := ⟨RX3, "setAside", "()I"⟩
abbrev cX3_setOfMint : ByteArray := prog_5_method_20_code
def yX3_setOfMint : MethodName := ⟨RX3, "setOfMint", "(I)I"⟩
abbrev cX3_explainedBy : ByteArray := prog_5_method_21_code
def yX3_explainedBy : MethodName := ⟨RX3, "explainedBy", "(I)I"⟩
abbrev cX3_lossesOf : ByteArray := prog_5_method_22_code
def yX3_lossesOf : MethodName := ⟨RX3, "lossesOf", "(II)I"⟩
abbrev cX3_bestUnit : ByteArray := prog_5_method_23_code
def yX3_bestUnit : MethodName := ⟨RX3, "bestUnit", "()I"⟩
abbrev cX3_lackOf : ByteArray := prog_5_method_24_code
def yX3_lackOf : MethodName := ⟨RX3, "lackOf", "(II)I"⟩
abbrev cX3_recognizes : ByteArray := prog_5_method_25_code
def yX3_recognizes : MethodName := ⟨RX3, "recognizes", "(I)Z"⟩
def RX4 : String := "CommonUnits$Sightings"
def TX4 : u_T := fun k => match k with
  | 0 => ("CommonUnits$Sightings", "coins", "[I", true)
  | 1 => ("CommonUnits$Sightings", "fitting", "[Z", true)
  | _ => ("CommonUnits$Sightings", "size", "I", false)
def tyX4 : Nat → FieldType := fun k => match k with
  | 0 => .array .int
  | 1 => .array .boolean
  | _ => .int
abbrev wsX40 : List Cond := u_ws RX4 TX4 3
theorem nmX4 : ∀ a, a < 3 → ∀ b, b < 3 → a ≠ b → (TX4 a).2.1 ≠ (TX4 b).2.1 := by decide +kernel
theorem tyX4_ok : ∀ k, k < 3 → parseFieldDescriptor (TX4 k).2.2.1 = some (tyX4 k) := by decide +kernel
abbrev cX4_init : ByteArray := prog_6_method_1_code
def yX4_init : MethodName := ⟨RX4, "<init>", "()V"⟩
abbrev cX4_add : ByteArray := prog_6_method_2_code
def yX4_add : MethodName := ⟨RX4, "add", "(II)I"⟩
abbrev cX4_agreeWith : ByteArray := prog_6_method_3_code
def yX4_agreeWith : MethodName := ⟨RX4, "agreeWith", "(LCommonUnits$Hoard;I)Z"⟩
def RX5 : String := "CommonUnits$Steps"
def TX5 : u_T := fun k => match k with
  | _ => ("", "", "", false)
def tyX5 : Nat → FieldType := fun k => match k with
  | _ => .int
abbrev wsX50 : List Cond := u_ws RX5 TX5 0
theorem nmX5 : ∀ a, a < 0 → ∀ b, b < 0 → a ≠ b → (TX5 a).2.1 ≠ (TX5 b).2.1 := by decide +kernel
theorem tyX5_ok : ∀ k, k < 0 → parseFieldDescriptor (TX5 k).2.2.1 = some (tyX5 k) := by decide +kernel
abbrev cX5_holds : ByteArray := prog_7_method_2_code
def yX5_holds : MethodName := ⟨RX5, "holds", "(LCommonUnits$Hoard;I)Z"⟩
abbrev cX5_turns : ByteArray := prog_7_method_3_code
def yX5_turns : MethodName := ⟨RX5, "turns", "(LCommonUnits$Hoard;I)Z"⟩
abbrev cX5_isOf : ByteArray := prog_7_method_4_code
def yX5_isOf : MethodName := ⟨RX5, "isOf", "(LCommonUnits$Hoard;II)Z"⟩
def RX6 : String := "CommonUnits$Survey"
def TX6 : u_T := fun k => match k with
  | 0 => ("CommonUnits$Survey", "weights", "[I", true)
  | 1 => ("CommonUnits$Survey", "wears", "[I", true)
  | 2 => ("CommonUnits$Survey", "lacks", "[I", true)
  | 3 => ("CommonUnits$Survey", "sums", "[I", true)
  | 4 => ("CommonUnits$Survey", "order", "[I", true)
  | 5 => ("CommonUnits$Survey", "version", "I", false)
  | 6 => ("CommonUnits$Survey", "sortedVersion", "I", false)
  | 7 => ("CommonUnits$Survey", "pairVersion", "I", false)
  | 8 => ("CommonUnits$Survey", "lower", "I", false)
  | 9 => ("CommonUnits$Survey", "upper", "I", false)
  | _ => ("CommonUnits$Survey", "pairLack", "I", false)
def tyX6 : Nat → FieldType := fun k => match k with
  | 0 => .array .int
  | 1 => .array .int
  | 2 => .array .int
  | 3 => .array .int
  | 4 => .array .int
  | 5 => .int
  | 6 => .int
  | 7 => .int
  | 8 => .int
  | 9 => .int
  | _ => .int
abbrev wsX60 : List Cond := u_ws RX6 TX6 11
theorem nmX6 : ∀ a, a < 11 → ∀ b, b < 11 → a ≠ b → (TX6 a).2.1 ≠ (TX6 b).2.1 := by decide +kernel
theorem tyX6_ok : ∀ k, k < 11 → parseFieldDescriptor (TX6 k).2.2.1 = some (tyX6 k) := by decide +kernel
abbrev cX6_init : ByteArray := prog_8_method_1_code
def yX6_init : MethodName := ⟨RX6, "<init>", "()V"⟩
abbrev cX6_look : ByteArray := prog_8_method_2_code
def yX6_look : MethodName := ⟨RX6, "look", "(LCommonUnits$Hoard;)V"⟩
abbrev cX6_fillColumn : ByteArray := prog_8_method_3_code
def yX6_fillColumn : MethodName := ⟨RX6, "fillColumn", "(III)V"⟩
abbrev cX6_rankOf : ByteArray := prog_8_method_4_code
def yX6_rankOf : MethodName := ⟨RX6, "rankOf", "(I)I"⟩
abbrev cX6_keyOf : ByteArray := prog_8_method_5_code
def yX6_keyOf : MethodName := ⟨RX6, "keyOf", "(I)I"⟩
abbrev cX6_unitOfRank : ByteArray := prog_8_method_6_code
def yX6_unitOfRank : MethodName := ⟨RX6, "unitOfRank", "(I)I"⟩
abbrev cX6_sort : ByteArray := prog_8_method_7_code
def yX6_sort : MethodName := ⟨RX6, "sort", "()V"⟩
abbrev cX6_findPair : ByteArray := prog_8_method_8_code
def yX6_findPair : MethodName := ⟨RX6, "findPair", "()V"⟩
abbrev cX6_findUpper : ByteArray := prog_8_method_9_code
def yX6_findUpper : MethodName := ⟨RX6, "findUpper", "(II)V"⟩
abbrev cX6_bestUnit : ByteArray := prog_8_method_10_code
def yX6_bestUnit : MethodName := ⟨RX6, "bestUnit", "()I"⟩
abbrev cX6_leastWith : ByteArray := prog_8_method_11_code
def yX6_leastWith : MethodName := ⟨RX6, "leastWith", "(I)I"⟩
abbrev cX6_jointLack : ByteArray := prog_8_method_12_code
def yX6_jointLack : MethodName := ⟨RX6, "jointLack", "(IIII)I"⟩
abbrev cX6_countedColumns : ByteArray := prog_8_method_13_code
def yX6_countedColumns : MethodName := ⟨RX6, "countedColumns", "()I"⟩
abbrev cX6_width : ByteArray := prog_8_method_14_code
def yX6_width : MethodName := ⟨RX6, "width", "()I"⟩
abbrev cX6_placesBy : ByteArray := prog_8_method_15_code
def yX6_placesBy : MethodName := ⟨RX6, "placesBy", "(I)I"⟩
def RX7 : String := "CommonUnits$Text"
def TX7 : u_T := fun k => match k with
  | 0 => ("CommonUnits$Text", "signs", "[I", true)
  | _ => ("CommonUnits$Text", "length", "I", false)
def tyX7 : Nat → FieldType := fun k => match k with
  | 0 => .array .int
  | _ => .int
abbrev wsX70 : List Cond := u_ws RX7 TX7 2
theorem nmX7 : ∀ a, a < 2 → ∀ b, b < 2 → a ≠ b → (TX7 a).2.1 ≠ (TX7 b).2.1 := by decide +kernel
theorem tyX7_ok : ∀ k, k < 2 → parseFieldDescriptor (TX7 k).2.2.1 = some (tyX7 k) := by decide +kernel
abbrev cX7_init : ByteArray := prog_9_method_1_code
def yX7_init : MethodName := ⟨RX7, "<init>", "()V"⟩
abbrev cX7_append : ByteArray := prog_9_method_2_code
def yX7_append : MethodName := ⟨RX7, "append", "(I)I"⟩
abbrev cX7_readInto : ByteArray := prog_9_method_3_code
def yX7_readInto : MethodName := ⟨RX7, "readInto", "(LCommonUnits$Hoard;)I"⟩
abbrev cX7_readPart : ByteArray := prog_9_method_4_code
def yX7_readPart : MethodName := ⟨RX7, "readPart", "(ILCommonUnits$Hoard;)I"⟩
abbrev cX7_numberFault : ByteArray := prog_9_method_5_code
def yX7_numberFault : MethodName := ⟨RX7, "numberFault", "(I)I"⟩
abbrev cX7_numberAt : ByteArray := prog_9_method_6_code
def yX7_numberAt : MethodName := ⟨RX7, "numberAt", "(I)I"⟩
abbrev cX7_digitAt : ByteArray := prog_9_method_7_code
def yX7_digitAt : MethodName := ⟨RX7, "digitAt", "(I)I"⟩
abbrev cX7_signAt : ByteArray := prog_9_method_8_code
def yX7_signAt : MethodName := ⟨RX7, "signAt", "(I)I"⟩
def RX8 : String := "CommonUnits"
def TX8 : u_T := fun k => match k with
  | 0 => ("CommonUnits", "text", "LCommonUnits$Text;", true)
  | 1 => ("CommonUnits", "now", "LCommonUnits$Hoard;", true)
  | 2 => ("CommonUnits", "spare", "LCommonUnits$Hoard;", true)
  | 3 => ("CommonUnits", "acts", "LCommonUnits$Acts;", true)
  | 4 => ("CommonUnits", "crowd", "LCommonUnits$Crowd;", true)
  | 5 => ("CommonUnits", "sightings", "LCommonUnits$Sightings;", true)
  | 6 => ("CommonUnits", "slots", "[LCommonUnits$Hoard;", true)
  | 7 => ("CommonUnits", "filled", "[Z", true)
  | 8 => ("CommonUnits", "survey", "LCommonUnits$Survey;", false)
  | _ => ("CommonUnits", "state", "J", false)
def tyX8 : Nat → FieldType := fun k => match k with
  | 0 => .object "CommonUnits$Text"
  | 1 => .object "CommonUnits$Hoard"
  | 2 => .object "CommonUnits$Hoard"
  | 3 => .object "CommonUnits$Acts"
  | 4 => .object "CommonUnits$Crowd"
  | 5 => .object "CommonUnits$Sightings"
  | 6 => .array (.object "CommonUnits$Hoard")
  | 7 => .array .boolean
  | 8 => .object "CommonUnits$Survey"
  | _ => .long
abbrev wsX80 : List Cond := u_ws RX8 TX8 10
theorem nmX8 : ∀ a, a < 10 → ∀ b, b < 10 → a ≠ b → (TX8 a).2.1 ≠ (TX8 b).2.1 := by decide +kernel
theorem tyX8_ok : ∀ k, k < 10 → parseFieldDescriptor (TX8 k).2.2.1 = some (tyX8 k) := by decide +kernel
abbrev cX8_init : ByteArray := prog_1_method_1_code
def yX8_init : MethodName := ⟨RX8, "<init>", "()V"⟩
abbrev cX8_write : ByteArray := prog_1_method_2_code
def yX8_write : MethodName := ⟨RX8, "write", "(I)I"⟩
abbrev cX8_wipe : ByteArray := prog_1_method_3_code
def yX8_wipe : MethodName := ⟨RX8, "wipe", "()I"⟩
abbrev cX8_fault : ByteArray := prog_1_method_4_code
def yX8_fault : MethodName := ⟨RX8, "fault", "()I"⟩
abbrev cX8_hoard : ByteArray := prog_1_method_5_code
def yX8_hoard : MethodName := ⟨RX8, "hoard", "()I"⟩
abbrev cX8_coin : ByteArray := prog_1_method_6_code
def yX8_coin : MethodName := ⟨RX8, "coin", "(II)I"⟩
abbrev cX8_mint : ByteArray := prog_1_method_7_code
def yX8_mint : MethodName := ⟨RX8, "mint", "(II)I"⟩
abbrev cX8_clean : ByteArray := prog_1_method_8_code
def yX8_clean : MethodName := ⟨RX8, "clean", "(II)I"⟩
abbrev cX8_date : ByteArray := prog_1_method_9_code
def yX8_date : MethodName := ⟨RX8, "date", "(II)I"⟩
abbrev cX8_aside : ByteArray := prog_1_method_10_code
def yX8_aside : MethodName := ⟨RX8, "aside", "(I)I"⟩
abbrev cX8_strike : ByteArray := prog_1_method_11_code
def yX8_strike : MethodName := ⟨RX8, "strike", "(II)I"⟩
abbrev cX8_setRate : ByteArray := prog_1_method_12_code
def yX8_setRate : MethodName := ⟨RX8, "setRate", "(I)I"⟩
abbrev cX8_setLaw : ByteArray := prog_1_method_13_code
def yX8_setLaw : MethodName := ⟨RX8, "setLaw", "(I)I"⟩
abbrev cX8_undo : ByteArray := prog_1_method_14_code
def yX8_undo : MethodName := ⟨RX8, "undo", "()I"⟩
abbrev cX8_act : ByteArray := prog_1_method_15_code
def yX8_act : MethodName := ⟨RX8, "act", "(III)I"⟩
abbrev cX8_fits : ByteArray := prog_1_method_16_code
def yX8_fits : MethodName := ⟨RX8, "fits", "(III)I"⟩
abbrev cX8_chain : ByteArray := prog_1_method_17_code
def yX8_chain : MethodName := ⟨RX8, "chain", "(II)I"⟩
abbrev cX8_unit : ByteArray := prog_1_method_18_code
def yX8_unit : MethodName := ⟨RX8, "unit", "(II)I"⟩
abbrev cX8_ranked : ByteArray := prog_1_method_19_code
def yX8_ranked : MethodName := ⟨RX8, "ranked", "(I)I"⟩
abbrev cX8_pair : ByteArray := prog_1_method_20_code
def yX8_pair : MethodName := ⟨RX8, "pair", "(I)I"⟩
abbrev cX8_surveyNow : ByteArray := prog_1_method_21_code
def yX8_surveyNow : MethodName := ⟨RX8, "surveyNow", "()LCommonUnits$Survey;"⟩
abbrev cX8_judge : ByteArray := prog_1_method_22_code
def yX8_judge : MethodName := ⟨RX8, "judge", "(IJ)I"⟩
abbrev cX8_see : ByteArray := prog_1_method_23_code
def yX8_see : MethodName := ⟨RX8, "see", "(II)I"⟩
abbrev cX8_unsee : ByteArray := prog_1_method_24_code
def yX8_unsee : MethodName := ⟨RX8, "unsee", "()I"⟩
abbrev cX8_which : ByteArray := prog_1_method_25_code
def yX8_which : MethodName := ⟨RX8, "which", "(I)I"⟩
abbrev cX8_share : ByteArray := prog_1_method_26_code
def yX8_share : MethodName := ⟨RX8, "share", "(IZ)I"⟩
abbrev cX8_lost : ByteArray := prog_1_method_27_code
def yX8_lost : MethodName := ⟨RX8, "lost", "(IZ)I"⟩
abbrev cX8_seed : ByteArray := prog_1_method_28_code
def yX8_seed : MethodName := ⟨RX8, "seed", "(J)J"⟩
abbrev cX8_drawn : ByteArray := prog_1_method_29_code
def yX8_drawn : MethodName := ⟨RX8, "drawn", "(I)I"⟩
abbrev cX8_keep : ByteArray := prog_1_method_30_code
def yX8_keep : MethodName := ⟨RX8, "keep", "(I)I"⟩
abbrev cX8_again : ByteArray := prog_1_method_31_code
def yX8_again : MethodName := ⟨RX8, "again", "(I)I"⟩
abbrev cX8_count : ByteArray := prog_1_method_32_code
def yX8_count : MethodName := ⟨RX8, "count", "(I)I"⟩
def RX9 : String := "CommonUnitsModel"
def TX9 : u_T := fun k => match k with
  | 0 => ("CommonUnitsModel", "thrown", "I", false)
  | 1 => ("CommonUnitsModel", "text", "[I", true)
  | 2 => ("CommonUnitsModel", "textSize", "I", false)
  | 3 => ("CommonUnitsModel", "coins", "I", false)
  | 4 => ("CommonUnitsModel", "mints", "I", false)
  | 5 => ("CommonUnitsModel", "readCoins", "I", false)
  | 6 => ("CommonUnitsModel", "readMints", "I", false)
  | 7 => ("CommonUnitsModel", "readPage", "[I", true)
  | 8 => ("CommonUnitsModel", "page", "[I", true)
  | 9 => ("CommonUnitsModel", "trial", "[I", true)
  | 10 => ("CommonUnitsModel", "book", "[I", true)
  | 11 => ("CommonUnitsModel", "doings", "I", false)
  | 12 => ("CommonUnitsModel", "kept", "[I", true)
  | 13 => ("CommonUnitsModel", "isKept", "[Z", true)
  | 14 => ("CommonUnitsModel", "seen", "I", false)
  | 15 => ("CommonUnitsModel", "seenCoin", "[I", true)
  | 16 => ("CommonUnitsModel", "seenIs", "[I", true)
  | 17 => ("CommonUnitsModel", "seed", "J", false)
  | 18 => ("CommonUnitsModel", "fitting", "[I", true)
  | 19 => ("CommonUnitsModel", "losing", "[I", true)
  | 20 => ("CommonUnitsModel", "order", "[I", true)
  | 21 => ("CommonUnitsModel", "pairU", "I", false)
  | 22 => ("CommonUnitsModel", "pairV", "I", false)
  | 23 => ("CommonUnitsModel", "pairMany", "I", false)
  | 24 => ("CommonUnitsModel", "pairLoss", "I", false)
  | 25 => ("CommonUnitsModel", "free", "[I", true)
  | 26 => ("CommonUnitsModel", "freeMany", "I", false)
  | _ => ("CommonUnitsModel", "worth", "[I", true)
def tyX9 : Nat → FieldType := fun k => match k with
  | 0 => .int
  | 1 => .array .int
  | 2 => .int
  | 3 => .int
  | 4 => .int
  | 5 => .int
  | 6 => .int
  | 7 => .array .int
  | 8 => .array .int
  | 9 => .array .int
  | 10 => .array .int
  | 11 => .int
  | 12 => .array .int
  | 13 => .array .boolean
  | 14 => .int
  | 15 => .array .int
  | 16 => .array .int
  | 17 => .long
  | 18 => .array .int
  | 19 => .array .int
  | 20 => .array .int
  | 21 => .int
  | 22 => .int
  | 23 => .int
  | 24 => .int
  | 25 => .array .int
  | 26 => .int
  | _ => .array .int
abbrev wsX90 : List Cond := u_ws RX9 TX9 28
theorem nmX9 : ∀ a, a < 28 → ∀ b, b < 28 → a ≠ b → (TX9 a).2.1 ≠ (TX9 b).2.1 := by decide +kernel
theorem tyX9_ok : ∀ k, k < 28 → parseFieldDescriptor (TX9 k).2.2.1 = some (tyX9 k) := by decide +kernel
abbrev cX9_init : ByteArray := prog_11_method_1_code
def yX9_init : MethodName := ⟨RX9, "<init>", "()V"⟩
abbrev cX9_in : ByteArray := prog_11_method_3_code
def yX9_in : MethodName := ⟨RX9, "in", "(JJJ)Z"⟩
abbrev cX9_has : ByteArray := prog_11_method_4_code
def yX9_has : MethodName := ⟨RX9, "has", "(II)Z"⟩
abbrev cX9_ones : ByteArray := prog_11_method_5_code
def yX9_ones : MethodName := ⟨RX9, "ones", "(I)I"⟩
abbrev cX9_power : ByteArray := prog_11_method_6_code
def yX9_power : MethodName := ⟨RX9, "power", "(II)I"⟩
abbrev cX9_noCoin : ByteArray := prog_11_method_7_code
def yX9_noCoin : MethodName := ⟨RX9, "noCoin", "(I)Z"⟩
abbrev cX9_noMint : ByteArray := prog_11_method_8_code
def yX9_noMint : MethodName := ⟨RX9, "noMint", "(I)Z"⟩
abbrev cX9_lay : ByteArray := prog_11_method_9_code
def yX9_lay : MethodName := ⟨RX9, "lay", "([I[I)V"⟩
abbrev cX9_write : ByteArray := prog_11_method_10_code
def yX9_write : MethodName := ⟨RX9, "write", "(I)I"⟩
abbrev cX9_wipe : ByteArray := prog_11_method_11_code
def yX9_wipe : MethodName := ⟨RX9, "wipe", "()I"⟩
abbrev cX9_isFigure : ByteArray := prog_11_method_12_code
def yX9_isFigure : MethodName := ⟨RX9, "isFigure", "(III)Z"⟩
abbrev cX9_canStand : ByteArray := prog_11_method_13_code
def yX9_canStand : MethodName := ⟨RX9, "canStand", "(III)Z"⟩
abbrev cX9_three : ByteArray := prog_11_method_14_code
def yX9_three : MethodName := ⟨RX9, "three", "(I)I"⟩
abbrev cX9_readHoard : ByteArray := prog_11_method_15_code
def yX9_readHoard : MethodName := ⟨RX9, "readHoard", "()I"⟩
abbrev cX9_fault : ByteArray := prog_11_method_16_code
def yX9_fault : MethodName := ⟨RX9, "fault", "()I"⟩
abbrev cX9_hoard : ByteArray := prog_11_method_17_code
def yX9_hoard : MethodName := ⟨RX9, "hoard", "()I"⟩
abbrev cX9_mostOf : ByteArray := prog_11_method_18_code
def yX9_mostOf : MethodName := ⟨RX9, "mostOf", "([II)I"⟩
abbrev cX9_timesOf : ByteArray := prog_11_method_19_code
def yX9_timesOf : MethodName := ⟨RX9, "timesOf", "(III)I"⟩
abbrev cX9_times : ByteArray := prog_11_method_20_code
def yX9_times : MethodName := ⟨RX9, "times", "([III)I"⟩
abbrev cX9_reason : ByteArray := prog_11_method_21_code
def yX9_reason : MethodName := ⟨RX9, "reason", "([III)I"⟩
abbrev cX9_excess : ByteArray := prog_11_method_22_code
def yX9_excess : MethodName := ⟨RX9, "excess", "([III)I"⟩
abbrev cX9_mintOf : ByteArray := prog_11_method_23_code
def yX9_mintOf : MethodName := ⟨RX9, "mintOf", "([III)I"⟩
abbrev cX9_ofMint : ByteArray := prog_11_method_24_code
def yX9_ofMint : MethodName := ⟨RX9, "ofMint", "([II)I"⟩
abbrev cX9_manyMints : ByteArray := prog_11_method_25_code
def yX9_manyMints : MethodName := ⟨RX9, "manyMints", "([II)I"⟩
abbrev cX9_coin : ByteArray := prog_11_method_26_code
def yX9_coin : MethodName := ⟨RX9, "coin", "(II)I"⟩
abbrev cX9_mint : ByteArray := prog_11_method_27_code
def yX9_mint : MethodName := ⟨RX9, "mint", "(II)I"⟩
abbrev cX9_change : ByteArray := prog_11_method_28_code
def yX9_change : MethodName := ⟨RX9, "change", "(II)I"⟩
abbrev cX9_note : ByteArray := prog_11_method_29_code
def yX9_note : MethodName := ⟨RX9, "note", "()V"⟩
abbrev cX9_clean : ByteArray := prog_11_method_30_code
def yX9_clean : MethodName := ⟨RX9, "clean", "(II)I"⟩
abbrev cX9_date : ByteArray := prog_11_method_31_code
def yX9_date : MethodName := ⟨RX9, "date", "(II)I"⟩
abbrev cX9_aside : ByteArray := prog_11_method_32_code
def yX9_aside : MethodName := ⟨RX9, "aside", "(I)I"⟩
abbrev cX9_strike : ByteArray := prog_11_method_33_code
def yX9_strike : MethodName := ⟨RX9, "strike", "(II)I"⟩
abbrev cX9_setRate : ByteArray := prog_11_method_34_code
def yX9_setRate : MethodName := ⟨RX9, "setRate", "(I)I"⟩
abbrev cX9_setLaw : ByteArray := prog_11_method_35_code
def yX9_setLaw : MethodName := ⟨RX9, "setLaw", "(I)I"⟩
abbrev cX9_undo : ByteArray := prog_11_method_36_code
def yX9_undo : MethodName := ⟨RX9, "undo", "()I"⟩
abbrev cX9_fits : ByteArray := prog_11_method_37_code
def yX9_fits : MethodName := ⟨RX9, "fits", "(III)I"⟩
abbrev cX9_chain : ByteArray := prog_11_method_38_code
def yX9_chain : MethodName := ⟨RX9, "chain", "(II)I"⟩
abbrev cX9_layFitting : ByteArray := prog_11_method_39_code
def yX9_layFitting : MethodName := ⟨RX9, "layFitting", "([I)V"⟩
abbrev cX9_lossOf : ByteArray := prog_11_method_40_code
def yX9_lossOf : MethodName := ⟨RX9, "lossOf", "(II)I"⟩
abbrev cX9_open : ByteArray := prog_11_method_41_code
def yX9_open : MethodName := ⟨RX9, "open", "([I)I"⟩
abbrev cX9_keyOf : ByteArray := prog_11_method_42_code
def yX9_keyOf : MethodName := ⟨RX9, "keyOf", "([II)I"⟩
abbrev cX9_rankOf : ByteArray := prog_11_method_43_code
def yX9_rankOf : MethodName := ⟨RX9, "rankOf", "([II)I"⟩
abbrev cX9_firstUnit : ByteArray := prog_11_method_44_code
def yX9_firstUnit : MethodName := ⟨RX9, "firstUnit", "([I)I"⟩
abbrev cX9_unit : ByteArray := prog_11_method_45_code
def yX9_unit : MethodName := ⟨RX9, "unit", "(II)I"⟩
abbrev cX9_ranked : ByteArray := prog_11_method_46_code
def yX9_ranked : MethodName := ⟨RX9, "ranked", "(I)I"⟩
abbrev cX9_lossOfPair : ByteArray := prog_11_method_47_code
def yX9_lossOfPair : MethodName := ⟨RX9, "lossOfPair", "(III)I"⟩
abbrev cX9_layPair : ByteArray := prog_11_method_48_code
def yX9_layPair : MethodName := ⟨RX9, "layPair", "([I)V"⟩
abbrev cX9_pair : ByteArray := prog_11_method_49_code
def yX9_pair : MethodName := ⟨RX9, "pair", "(I)I"⟩
abbrev cX9_longPower : ByteArray := prog_11_method_50_code
def yX9_longPower : MethodName := ⟨RX9, "longPower", "(JI)J"⟩
abbrev cX9_does : ByteArray := prog_11_method_51_code
def yX9_does : MethodName := ⟨RX9, "does", "(I)Z"⟩
abbrev cX9_judge : ByteArray := prog_11_method_52_code
def yX9_judge : MethodName := ⟨RX9, "judge", "(IJ)I"⟩
abbrev cX9_see : ByteArray := prog_11_method_53_code
def yX9_see : MethodName := ⟨RX9, "see", "(II)I"⟩
abbrev cX9_unsee : ByteArray := prog_11_method_54_code
def yX9_unsee : MethodName := ⟨RX9, "unsee", "()I"⟩
abbrev cX9_which : ByteArray := prog_11_method_55_code
def yX9_which : MethodName := ⟨RX9, "which", "(I)I"⟩
abbrev cX9_divisor : ByteArray := prog_11_method_56_code
def yX9_divisor : MethodName := ⟨RX9, "divisor", "(II)I"⟩
abbrev cX9_fraction : ByteArray := prog_11_method_57_code
def yX9_fraction : MethodName := ⟨RX9, "fraction", "(IIZ)I"⟩
abbrev cX9_factorial : ByteArray := prog_11_method_58_code
def yX9_factorial : MethodName := ⟨RX9, "factorial", "(I)I"⟩
abbrev cX9_weigh : ByteArray := prog_11_method_59_code
def yX9_weigh : MethodName := ⟨RX9, "weigh", "()V"⟩
abbrev cX9_share : ByteArray := prog_11_method_60_code
def yX9_share : MethodName := ⟨RX9, "share", "(IZ)I"⟩
abbrev cX9_lost : ByteArray := prog_11_method_61_code
def yX9_lost : MethodName := ⟨RX9, "lost", "(IZ)I"⟩
abbrev cX9_seed : ByteArray := prog_11_method_62_code
def yX9_seed : MethodName := ⟨RX9, "seed", "(J)J"⟩
abbrev cX9_drawn : ByteArray := prog_11_method_63_code
def yX9_drawn : MethodName := ⟨RX9, "drawn", "(I)I"⟩
abbrev cX9_keep : ByteArray := prog_11_method_64_code
def yX9_keep : MethodName := ⟨RX9, "keep", "(I)I"⟩
abbrev cX9_again : ByteArray := prog_11_method_65_code
def yX9_again : MethodName := ⟨RX9, "again", "(I)I"⟩
abbrev cX9_falseOnes : ByteArray := prog_11_method_66_code
def yX9_falseOnes : MethodName := ⟨RX9, "falseOnes", "()I"⟩
abbrev cX9_count : ByteArray := prog_11_method_67_code
def yX9_count : MethodName := ⟨RX9, "count", "(I)I"⟩
def RJ6 : String := "java/lang/Integer"
def TJ6 : u_T := fun k => match k with
  | _ => ("", "", "", false)
def tyJ6 : Nat → FieldType := fun k => match k with
  | _ => .int
abbrev wsJ60 : List Cond := u_ws RJ6 TJ6 0
theorem nmJ6 : ∀ a, a < 0 → ∀ b, b < 0 → a ≠ b → (TJ6 a).2.1 ≠ (TJ6 b).2.1 := by decide +kernel
theorem tyJ6_ok : ∀ k, k < 0 → parseFieldDescriptor (TJ6 k).2.2.1 = some (tyJ6 k) := by decide +kernel
abbrev cJ6_bitCount_0f7a4 : ByteArray := prog_12_method_49_code
def yJ6_bitCount_0f7a4 : MethodName := ⟨RJ6, "bitCount", "(I)I"⟩
def RJ9 : String := "java/lang/Math"
def TJ9 : u_T := fun k => match k with
  | _ => ("", "", "", false)
def tyJ9 : Nat → FieldType := fun k => match k with
  | _ => .int
abbrev wsJ90 : List Cond := u_ws RJ9 TJ9 0
theorem nmJ9 : ∀ a, a < 0 → ∀ b, b < 0 → a ≠ b → (TJ9 a).2.1 ≠ (TJ9 b).2.1 := by decide +kernel
theorem tyJ9_ok : ∀ k, k < 0 → parseFieldDescriptor (TJ9 k).2.2.1 = some (tyJ9 k) := by decide +kernel
abbrev cJ9_max_7cf53 : ByteArray := prog_13_method_65_code
def yJ9_max_7cf53 : MethodName := ⟨RJ9, "max", "(II)I"⟩
abbrev cJ9_max_f86c9 : ByteArray := prog_13_method_66_code
def yJ9_max_f86c9 : MethodName := ⟨RJ9, "max", "(JJ)J"⟩
abbrev cJ9_min_7cf53 : ByteArray := prog_13_method_69_code
def yJ9_min_7cf53 : MethodName := ⟨RJ9, "min", "(II)I"⟩
def RL : String := "CommonUnitsLaw"
abbrev cL_law : ByteArray := code
def yL_law : MethodName := ⟨RL, "law", "([I)Z"⟩
abbrev vwCl : List vw_C := [(RX0, TX0, 5), (RX1, TX1, 3), (RX3, TX3, 8), (RX4, TX4, 3), (RX6, TX6, 11), (RX7, TX7, 2), (RX8, TX8, 10), (RX9, TX9, 28)]
/-- the words of the tables that go with every contract -/
def cu_G : List Cond := lw_tbl.filter goodWord
theorem cu_mem {w : Cond} (i : Nat) (h : lw_tbl[i]? = some w) (hg : goodWord w = true) : w ∈ cu_G := List.mem_filter.mpr ⟨List.mem_of_getElem? h, hg⟩
theorem cu_sub {ws : List Cond} (ps : List Nat) (hp : ws = ps.filterMap (fun i => lw_tbl[i]?)) (h : ws.all goodWord = true) : ∀ w ∈ ws, w ∈ cu_G := fun w hw => by
  have h1 := List.all_eq_true.mp h w hw
  rw [hp] at hw
  obtain ⟨i, -, hi⟩ := List.mem_filterMap.mp hw
  exact cu_mem i hi h1
theorem cu_in {c : Cond} (h : c ∈ cu_G) : GoodIn cu_G (c :: cu_G) := fun w hw => by
  have hm : w ∈ cu_G := by
    rcases List.mem_cons.mp hw with rfl | h2
    · exact h
    · exact h2
  exact ⟨hm, good_of_word (List.mem_filter.mp hm).2⟩
theorem cu_iX0 : ∀ w ∈ wsX00, w ∈ cu_G := cu_sub [133, 135, 137, 139, 141] (by decide +kernel) (by decide +kernel)
theorem cu_iX1 : ∀ w ∈ wsX10, w ∈ cu_G := cu_sub [153, 155, 157] (by decide +kernel) (by decide +kernel)
theorem cu_iX3 : ∀ w ∈ wsX30, w ∈ cu_G := cu_sub [104, 106, 108, 110, 112, 114, 116, 118] (by decide +kernel) (by decide +kernel)
theorem cu_iX4 : ∀ w ∈ wsX40, w ∈ cu_G := cu_sub [170, 172, 174] (by decide +kernel) (by decide +kernel)
theorem cu_iX6 : ∀ w ∈ wsX60, w ∈ cu_G := cu_sub [446, 448, 450, 452, 454, 456, 458, 460, 462, 464, 466] (by decide +kernel) (by decide +kernel)
theorem cu_iX7 : ∀ w ∈ wsX70, w ∈ cu_G := cu_sub [72, 74] (by decide +kernel) (by decide +kernel)
theorem cu_iX8 : ∀ w ∈ wsX80, w ∈ cu_G := cu_sub [189, 191, 193, 195, 197, 199, 201, 203, 205, 207] (by decide +kernel) (by decide +kernel)
theorem cu_iX9 : ∀ w ∈ wsX90, w ∈ cu_G := cu_sub [712, 714, 716, 718, 720, 722, 724, 726, 728, 730, 732, 734, 736, 738, 740, 742, 744, 746, 748, 750, 752, 754, 756, 758, 760, 762, 764, 766] (by decide +kernel) (by decide +kernel)
end
section
-- the one word list for all contracts, and contracts in three kinds: reading only (cu_R), writing (cu_W, cu_V, cu_L, cu_Q)
theorem cu_fm {α β : Type} {f : α → Option β} {is : List α} {wc : List β} (h : is.map f = wc.map some) : is.filterMap f = wc := by
  have h1 := congrArg (List.filterMap id) h
  simpa [List.filterMap_map] using h1
abbrev cu_TY (cI cZ cQ : ClassId) : List (ClassId × FieldType) := [(cI, .int), (cZ, .boolean), (cQ, .object "CommonUnits$Hoard")]
def cu_N (U : State) : Prop := va_AO "CommonUnits$Hoard" U ∧ va_Nw (.methodLinkNest RX8 11 yX7_init RX8) U ∧ va_Nw (.methodLinkNest RX8 18 yX3_init RX8) U ∧ va_Nw (.methodLinkNest RX8 28 yX0_init RX8) U ∧ va_Nw (.methodLinkNest RX8 35 yX1_init RX8) U ∧ va_Nw (.methodLinkNest RX8 42 yX4_init RX8) U ∧ va_Nw (.methodLinkNest RX8 186 yX6_init RX8) U
def cu_K (D : va_G) (TY : List (ClassId × FieldType)) (U : State) : Prop := va_K D vwCl TY U ∧ cu_N U
theorem cu_K.warm {D : va_G} {TY : List (ClassId × FieldType)} {s U : State} (hW : s.WarmedH U.vm) (h : cu_K D TY s) : cu_K D TY U := by
  obtain ⟨h1, h2, a1, a2, a3, a4, a5, a6⟩ := h
  exact ⟨va_K.moved hW.alike h1, va_AO.moved hW.alike h2, a1.warmM hW, a2.warmM hW, a3.warmM hW, a4.warmM hW, a5.warmM hW, a6.warmM hW⟩
theorem cu_K.call {D : va_G} {TY : List (ClassId × FieldType)} {U : State} {g : JFrame} {mk : MethodId} {a : Array Value} (h : cu_K D TY U) : cu_K D TY (U.calling g mk a) := by
  obtain ⟨h1, h2, a1, a2, a3, a4, a5, a6⟩ := h
  exact ⟨va_K.moved (u := U) (U := U.calling g mk a) (Vm.Alike.refl U.vm) h1, va_AO.moved (u := U) (U := U.calling g mk a) (Vm.Alike.refl U.vm) h2, a1.same rfl rfl, a2.same rfl rfl, a3.same rfl rfl, a4.same rfl rfl, a5.same rfl rfl, a6.same rfl rfl⟩
abbrev cu_rm (fr lo mc ms : Nat) : Room := { frames := fr, cells := mc, slots := ms, locals := lo }
def cu_R (l : Launch) (D : va_G) (TY : List (ClassId × FieldType)) (y : MethodName) (cc : ByteArray) (mL : Nat) (rt : FieldType) (fr lo : Nat) (av : List Value) (ws : va_W) (post : Int32 → Prop) : Prop :=
  Met l y (Cond.code y cc mL (some rt) :: cu_G) (cu_rm fr lo 0 0) (va_Pc av (fun U => va_P D vwCl ws U.heap ∧ cu_K D TY U)) (vp_Si post) 0 0 (fun _ => False)
def cu_pre (D : va_G) (TY : List (ClassId × FieldType)) (ws : va_W) (sz : Nat) (U : State) : Prop := U.heap.size = sz ∧ va_P D vwCl ws U.heap ∧ cu_K D TY U ∧ va_D (fun _ => True) ws
def cu_B (D : va_G) (ws : va_W) (sz : Nat) (w : va_W) (t : State) : Prop := va_P D vwCl w t.heap ∧ va_D (va_A ws sz) w
def cu_W (l : Launch) (D : va_G) (TY : List (ClassId × FieldType)) (y : MethodName) (cc : ByteArray) (mL : Nat) (rt : FieldType) (fr lo mc ms : Nat) (av : List Value) (ws : va_W) (post : Int32 → va_W → Prop) : Prop :=
  ∀ sz : Nat, Met l y (Cond.code y cc mL (some rt) :: cu_G) (cu_rm fr lo mc ms) (va_Pc av (cu_pre D TY ws sz)) (va_Qi post (cu_B D ws sz) (va_A ws sz)) mc ms (va_A ws sz)
def cu_V (l : Launch) (D : va_G) (TY : List (ClassId × FieldType)) (y : MethodName) (cc : ByteArray) (mL : Nat) (fr lo mc ms : Nat) (av : List Value) (ws : va_W) (post : va_W → Prop) : Prop :=
  ∀ sz : Nat, Met l y (Cond.code y cc mL none :: cu_G) (cu_rm fr lo mc ms) (va_Pc av (cu_pre D TY ws sz)) (va_Qv post (cu_B D ws sz) (va_A ws sz)) mc ms (va_A ws sz)
def cu_L (l : Launch) (D : va_G) (TY : List (ClassId × FieldType)) (y : MethodName) (cc : ByteArray) (mL : Nat) (fr lo mc ms : Nat) (av : List Value) (ws : va_W) (post : Int64 → va_W → Prop) : Prop :=
  ∀ sz : Nat, Met l y (Cond.code y cc mL (some .long) :: cu_G) (cu_rm fr lo mc ms) (va_Pc av (cu_pre D TY ws sz)) (va_Ql post (cu_B D ws sz) (va_A ws sz)) mc ms (va_A ws sz)
def cu_Q (l : Launch) (D : va_G) (TY : List (ClassId × FieldType)) (y : MethodName) (cc : ByteArray) (mL : Nat) (rt : String) (fr lo mc ms : Nat) (av : List Value) (ws : va_W) (post : Nat × va_W → Prop) : Prop :=
  ∀ sz : Nat, Met l y (Cond.code y cc mL (some (.object rt)) :: cu_G) (cu_rm fr lo mc ms) (va_Pc av (cu_pre D TY ws sz)) (va_Qr post (fun u a t => u.1 = a ∧ cu_B D ws sz u.2 t) (va_A ws sz)) mc ms (va_A ws sz)
theorem cu_R.intro {l : Launch} {D : va_G} {TY : List (ClassId × FieldType)} {y : MethodName} {cc : ByteArray} {mL : Nat} {rt : FieldType} {fr lo : Nat} {av : List Value} {ws : va_W} {post : Int32 → Prop}
    (hy : plainName y.cls = true) (hlen : (lg_sl av).length ≤ mL)
    (body : ∀ (p : Program) (e : Env) (s : State) (m : MethodId) (args : Array Value) (below : List Frame) (meth : Method) (c : Code) (Q : State → Prop) (ls : Array Slot),
      CallFix p m c cc mL s args cu_G y.cls →
      (∀ (pc : Nat) (ls : Array Slot) (v : Int32), decode cc pc = .ok (.ireturn, 1) → narrow rt (.int v) = .int v → post v → W p l e (cu_rm fr lo 0 0) s m args below meth c s.heap [] 0 0 Q (F0 m pc ls [.int v])) →
      va_P D vwCl ws s.heap → cu_K D TY s → lv_has ls mL (lv_args 0 av) →
      W p l e (cu_rm fr lo 0 0) s m args below meth c s.heap [] 0 0 Q (F0 m 0 ls [])) : cu_R l D TY y cc mL rt fr lo av ws post := by
  refine Met.ofW (cc := cc) (maxL := mL) (ret := some rt) hy rfl ?_
  intro p e s m args below meth c s₁ B hml hv
  obtain ⟨rfl, hP, hK⟩ := hv
  have hts := atoms_spec (ws := Cond.code y cc mL (some rt) :: cu_G) B.pre
  have hown : s.vm.findClass y.cls = some m.cls := findClass_of_methodNamed B.named
  have hlocks := B.notSynchronized
  have hl := lv_entry av (n := mL) hlen
  rw [lg_entry_eq]
  exact body p e s m _ below meth c _ _ ⟨B.exec, B.bytes, hml, hown, fun w h => hts w (List.mem_cons_of_mem _ h)⟩
    (fun pc ls v hd hn hp => W.zret B.exec B.bytes B.returns hn (fun t ht hW => ⟨v, rfl, hp, ht⟩) (fun _ h => by cases h) hd) hP hK hl
theorem cu_W.intro {l : Launch} {D : va_G} {TY : List (ClassId × FieldType)} {y : MethodName} {cc : ByteArray} {mL : Nat} {rt : FieldType} {fr lo mc ms : Nat} {av : List Value} {ws : va_W} {post : Int32 → va_W → Prop}
    (hy : plainName y.cls = true) (hlen : (lg_sl av).length ≤ mL)
    (body : ∀ (p : Program) (e : Env) (s : State) (m : MethodId) (args : Array Value) (below : List Frame) (meth : Method) (c : Code) (Q : State → Prop) (ls : Array Slot) (A : Nat → Prop),
      CallFix p m c cc mL s args cu_G y.cls →
      (∀ (H : Heap) (locs : List Loc) (k n : Nat) (w : va_W) (pc : Nat) (ls : Array Slot) (v : Int32), va_P D vwCl w H → va_D A w → va_S A s.heap H locs → k ≤ mc → n ≤ ms → decode cc pc = .ok (.ireturn, 1) → narrow rt (.int v) = .int v → post v w → W p l e (cu_rm fr lo mc ms) s m args below meth c H locs k n Q (F0 m pc ls [.int v])) →
      va_P D vwCl ws s.heap → va_D A ws → va_S A s.heap s.heap [] → (∀ q : Nat, s.heap.size ≤ q → A q) → cu_K D TY s → lv_has ls mL (lv_args 0 av) →
      W p l e (cu_rm fr lo mc ms) s m args below meth c s.heap [] 0 0 Q (F0 m 0 ls [])) : cu_W l D TY y cc mL rt fr lo mc ms av ws post := by
  intro sz
  refine Met.ofW (cc := cc) (maxL := mL) (ret := some rt) hy rfl ?_
  intro p e s m args below meth c s₁ B hml hv
  obtain ⟨rfl, hsz, hP, hK, hD0⟩ := hv
  subst hsz
  have hts := atoms_spec (ws := Cond.code y cc mL (some rt) :: cu_G) B.pre
  have hown : s.vm.findClass y.cls = some m.cls := findClass_of_methodNamed B.named
  have hlocks := B.notSynchronized
  have hl := lv_entry av (n := mL) hlen
  rw [lg_entry_eq]
  exact body p e s m _ below meth c _ _ (va_A ws s.heap.size) ⟨B.exec, B.bytes, hml, hown, fun w h => hts w (List.mem_cons_of_mem _ h)⟩
    (fun H locs k n w pc ls v h1 h2 h3 hk hn hd hna hp => W.widen hk hn (W.zret B.exec B.bytes B.returns hna (fun t ht hW => ⟨⟨v, w, rfl, hp, by rw [ht]; exact h1, h2⟩, h3.F ht⟩) h3.2.2 hd)) hP hD0.self va_S.rf (fun q h => Or.inr h) hK hl
theorem cu_V.intro {l : Launch} {D : va_G} {TY : List (ClassId × FieldType)} {y : MethodName} {cc : ByteArray} {mL : Nat} {fr lo mc ms : Nat} {av : List Value} {ws : va_W} {post : va_W → Prop}
    (hy : plainName y.cls = true) (hlen : (lg_sl av).length ≤ mL)
    (body : ∀ (p : Program) (e : Env) (s : State) (m : MethodId) (args : Array Value) (below : List Frame) (meth : Method) (c : Code) (Q : State → Prop) (ls : Array Slot) (A : Nat → Prop),
      CallFix p m c cc mL s args cu_G y.cls → meth.name = y.name →
      (∀ (H : Heap) (locs : List Loc) (k n : Nat) (w : va_W) (pc : Nat) (ls : Array Slot), va_P D vwCl w H → va_D A w → va_S A s.heap H locs → k ≤ mc → n ≤ ms → decode cc pc = .ok (.return_, 1) → post w → W p l e (cu_rm fr lo mc ms) s m args below meth c H locs k n Q (F0 m pc ls [])) →
      va_P D vwCl ws s.heap → va_D A ws → va_S A s.heap s.heap [] → (∀ q : Nat, s.heap.size ≤ q → A q) → cu_K D TY s → lv_has ls mL (lv_args 0 av) →
      W p l e (cu_rm fr lo mc ms) s m args below meth c s.heap [] 0 0 Q (F0 m 0 ls [])) : cu_V l D TY y cc mL fr lo mc ms av ws post := by
  intro sz
  refine Met.ofW (cc := cc) (maxL := mL) (ret := none) hy rfl ?_
  intro p e s m args below meth c s₁ B hml hv
  obtain ⟨rfl, hsz, hP, hK, hD0⟩ := hv
  subst hsz
  have hts := atoms_spec (ws := Cond.code y cc mL none :: cu_G) B.pre
  have hown : s.vm.findClass y.cls = some m.cls := findClass_of_methodNamed B.named
  have hlocks := B.notSynchronized
  have hin : meth.name = y.name := (name_of_methodNamed B.named B.method).1
  have hl := lv_entry av (n := mL) hlen
  rw [lg_entry_eq]
  exact body p e s m _ below meth c _ _ (va_A ws s.heap.size) ⟨B.exec, B.bytes, hml, hown, fun w h => hts w (List.mem_cons_of_mem _ h)⟩ hin
    (fun H locs k n w pc ls h1 h2 h3 hk hn hd hp => W.widen hk hn (W.vret B.exec B.bytes B.returns (fun t ht hW => ⟨⟨w, rfl, hp, by rw [ht]; exact h1, h2⟩, h3.F ht⟩) h3.2.2 hd)) hP hD0.self va_S.rf (fun q h => Or.inr h) hK hl
theorem cu_L.intro {l : Launch} {D : va_G} {TY : List (ClassId × FieldType)} {y : MethodName} {cc : ByteArray} {mL : Nat} {fr lo mc ms : Nat} {av : List Value} {ws : va_W} {post : Int64 → va_W → Prop}
    (hy : plainName y.cls = true) (hlen : (lg_sl av).length ≤ mL)
    (body : ∀ (p : Program) (e : Env) (s : State) (m : MethodId) (args : Array Value) (below : List Frame) (meth : Method) (c : Code) (Q : State → Prop) (ls : Array Slot) (A : Nat → Prop),
      CallFix p m c cc mL s args cu_G y.cls →
      (∀ (H : Heap) (locs : List Loc) (k n : Nat) (w : va_W) (pc : Nat) (ls : Array Slot) (v : Int64), va_P D vwCl w H → va_D A w → va_S A s.heap H locs → k ≤ mc → n ≤ ms → decode cc pc = .ok (.lreturn, 1) → post v w → W p l e (cu_rm fr lo mc ms) s m args below meth c H locs k n Q (F0 m pc ls [.long v])) →
      va_P D vwCl ws s.heap → va_D A ws → va_S A s.heap s.heap [] → (∀ q : Nat, s.heap.size ≤ q → A q) → cu_K D TY s → lv_has ls mL (lv_args 0 av) →
      W p l e (cu_rm fr lo mc ms) s m args below meth c s.heap [] 0 0 Q (F0 m 0 ls [])) : cu_L l D TY y cc mL fr lo mc ms av ws post := by
  intro sz
  refine Met.ofW (cc := cc) (maxL := mL) (ret := some .long) hy rfl ?_
  intro p e s m args below meth c s₁ B hml hv
  obtain ⟨rfl, hsz, hP, hK, hD0⟩ := hv
  subst hsz
  have hts := atoms_spec (ws := Cond.code y cc mL (some .long) :: cu_G) B.pre
  have hown : s.vm.findClass y.cls = some m.cls := findClass_of_methodNamed B.named
  have hlocks := B.notSynchronized
  have hl := lv_entry av (n := mL) hlen
  rw [lg_entry_eq]
  exact body p e s m _ below meth c _ _ (va_A ws s.heap.size) ⟨B.exec, B.bytes, hml, hown, fun w h => hts w (List.mem_cons_of_mem _ h)⟩
    (fun H locs k n w pc ls v h1 h2 h3 hk hn hd hp => W.widen hk hn (W.lret B.exec B.bytes B.returns (fun t ht hW => ⟨⟨v, w, rfl, hp, by rw [ht]; exact h1, h2⟩, h3.F ht⟩) h3.2.2 hd)) hP hD0.self va_S.rf (fun q h => Or.inr h) hK hl
theorem cu_Q.intro {l : Launch} {D : va_G} {TY : List (ClassId × FieldType)} {y : MethodName} {cc : ByteArray} {mL : Nat} {rt : String} {fr lo mc ms : Nat} {av : List Value} {ws : va_W} {post : Nat × va_W → Prop}
    (hy : plainName y.cls = true) (hlen : (lg_sl av).length ≤ mL)
    (body : ∀ (p : Program) (e : Env) (s : State) (m : MethodId) (args : Array Value) (below : List Frame) (meth : Method) (c : Code) (Q : State → Prop) (ls : Array Slot) (A : Nat → Prop),
      CallFix p m c cc mL s args cu_G y.cls →
      (∀ (H : Heap) (locs : List Loc) (k n : Nat) (w : va_W) (pc : Nat) (ls : Array Slot) (v : Nat), va_P D vwCl w H → va_D A w → va_S A s.heap H locs → k ≤ mc → n ≤ ms → decode cc pc = .ok (.areturn, 1) → post (v, w) → W p l e (cu_rm fr lo mc ms) s m args below meth c H locs k n Q (F0 m pc ls [.ref v])) →
      va_P D vwCl ws s.heap → va_D A ws → va_S A s.heap s.heap [] → (∀ q : Nat, s.heap.size ≤ q → A q) → cu_K D TY s → lv_has ls mL (lv_args 0 av) →
      W p l e (cu_rm fr lo mc ms) s m args below meth c s.heap [] 0 0 Q (F0 m 0 ls [])) : cu_Q l D TY y cc mL rt fr lo mc ms av ws post := by
  intro sz
  refine Met.ofW (cc := cc) (maxL := mL) (ret := some (.object rt)) hy rfl ?_
  intro p e s m args below meth c s₁ B hml hv
  obtain ⟨rfl, hsz, hP, hK, hD0⟩ := hv
  subst hsz
  have hts := atoms_spec (ws := Cond.code y cc mL (some (.object rt)) :: cu_G) B.pre
  have hown : s.vm.findClass y.cls = some m.cls := findClass_of_methodNamed B.named
  have hlocks := B.notSynchronized
  have hl := lv_entry av (n := mL) hlen
  rw [lg_entry_eq]
  exact body p e s m _ below meth c _ _ (va_A ws s.heap.size) ⟨B.exec, B.bytes, hml, hown, fun w h => hts w (List.mem_cons_of_mem _ h)⟩
    (fun H locs k n w pc ls v h1 h2 h3 hk hn hd hp => W.widen hk hn (W.aret B.exec B.bytes B.returns (Or.inl ⟨_, rfl⟩) (Or.inr ⟨_, rfl⟩) (fun t ht hW => ⟨⟨(v, w), v, rfl, hp, rfl, by rw [ht]; exact h1, h2⟩, h3.F ht⟩) h3.2.2 hd)) hP hD0.self va_S.rf (fun q h => Or.inr h) hK hl

theorem cu_clamp {j : Nat} (h : j < 2 ^ 31) : (nI j).toNatClampNeg = j := by
  have h1 : (nI j).toNatClampNeg = (nI j).toInt.toNat := rfl
  rw [h1, nI_toInt h]; rfl
/-- between two ints, as numbers -/
theorem cu_le {a b : Int32} : a ≤ b ↔ a.toInt ≤ b.toInt := Int32.le_iff_toInt_le
theorem cu_lt {a b : Int32} : a < b ↔ a.toInt < b.toInt := Int32.lt_iff_toInt_lt
theorem cu_out9 {x : Int32} (h0 : ¬ x = 0) (h1 : ¬ x = 1) (h2 : ¬ x = 2) (h3 : ¬ x = 3) (h4 : ¬ x = 4) (h5 : ¬ x = 5) (h6 : ¬ x = 6) (h7 : ¬ x = 7) (h8 : ¬ x = 8) : x.toInt < 0 ∨ 8 < x.toInt := by
  have a0 := lv_neT (a := 0) h0 (by decide); have a1 := lv_neT (a := 1) h1 (by decide); have a2 := lv_neT (a := 2) h2 (by decide); have a3 := lv_neT (a := 3) h3 (by decide); have a4 := lv_neT (a := 4) h4 (by decide); have a5 := lv_neT (a := 5) h5 (by decide); have a6 := lv_neT (a := 6) h6 (by decide); have a7 := lv_neT (a := 7) h7 (by decide); have a8 := lv_neT (a := 8) h8 (by decide)
  omega
theorem cu_out6 {x : Int32} (h0 : ¬ x = 0) (h1 : ¬ x = 1) (h2 : ¬ x = 2) (h3 : ¬ x = 3) (h4 : ¬ x = 4) (h5 : ¬ x = 5) : x.toInt < 0 ∨ 5 < x.toInt := by
  have a0 := lv_neT (a := 0) h0 (by decide); have a1 := lv_neT (a := 1) h1 (by decide); have a2 := lv_neT (a := 2) h2 (by decide); have a3 := lv_neT (a := 3) h3 (by decide); have a4 := lv_neT (a := 4) h4 (by decide); have a5 := lv_neT (a := 5) h5 (by decide)
  omega
theorem cu_out4 {x : Int32} (h0 : ¬ x = 0) (h1 : ¬ x = 1) (h2 : ¬ x = 2) (h3 : ¬ x = 3) : x.toInt < 0 ∨ 3 < x.toInt := by
  have a0 := lv_neT (a := 0) h0 (by decide); have a1 := lv_neT (a := 1) h1 (by decide); have a2 := lv_neT (a := 2) h2 (by decide); have a3 := lv_neT (a := 3) h3 (by decide)
  omega
theorem cu_out3 {x : Int32} (h0 : ¬ x = 0) (h1 : ¬ x = 1) (h2 : ¬ x = 2) : x.toInt < 0 ∨ 2 < x.toInt := by
  have a0 := lv_neT (a := 0) h0 (by decide); have a1 := lv_neT (a := 1) h1 (by decide); have a2 := lv_neT (a := 2) h2 (by decide)
  omega
section CU
variable {p : Program} {l : Launch} {e : Env} {R : Room} {s : State} {m : MethodId} {args : Array Value} {below : List Frame} {meth : Method} {c : Code} {H : Heap} {locs : List Loc} {cells slots : Nat} {Q : State → Prop}
variable {cc : ByteArray} {pc : Nat} {ls : Array Slot} {rest : List Value} {D : va_G} {TY : List (ClassId × FieldType)} {A : Nat → Prop} {H0 : Heap}
theorem cu_topi {x y : Int32} (h : x = y) (k : W p l e R s m args below meth c H locs cells slots Q (F0 m pc ls (.int y :: rest))) : W p l e R s m args below meth c H locs cells slots Q (F0 m pc ls (.int x :: rest)) := h ▸ k
theorem cu_topl {x y : Int64} (h : x = y) (k : W p l e R s m args below meth c H locs cells slots Q (F0 m pc ls (.long y :: rest))) : W p l e R s m args below meth c H locs cells slots Q (F0 m pc ls (.long x :: rest)) := h ▸ k
theorem cu_topv {x y : Value} (h : x = y) (k : W p l e R s m args below meth c H locs cells slots Q (F0 m pc ls (y :: rest))) : W p l e R s m args below meth c H locs cells slots Q (F0 m pc ls (x :: rest)) := h ▸ k
abbrev cu_hd (y : MethodName) (n : Nat) : Prop := y.cls ≠ "java/lang/invoke/MethodHandle" ∧ y.cls ≠ "java/lang/invoke/VarHandle" ∧ (parseMethodDescriptor y.desc).map (fun d => d.parameters.length) = some n
theorem cu_cb {own : String} {mL index n fr lo mc ms : Nat} {y : MethodName} {bytes : ByteArray} {rt : Option FieldType} {nL : Nat}
    (S : CallFix p m c cc nL s args cu_G own) (hd : cu_hd y n) (k1 : Cond.code y bytes mL rt ∈ cu_G) (k2 : Cond.methodLink own index y ∈ cu_G) (k5 : Cond.initialized y.cls ∈ cu_G) (hR : fr + 1 ≤ R.frames ∧ 8 + (mL + 11) + lo ≤ R.locals) :
    CallB R s args own index y bytes mL rt (Cond.code y bytes mL rt :: cu_G) (cu_rm fr lo mc ms) mc ms n :=
  callB_of n S.2.2.2.2 (cu_in k1) rfl rfl rfl (S.2.2.2.2 _ k5) (S.2.2.2.2 _ k2) hd hR
theorem cu_VR {own : String} {nL mL index n fr lo : Nat} {y : MethodName} {bytes : ByteArray} {rt : FieldType} {b : Nat} {st : List Value} {wc ws : va_W} {post : Int32 → Prop} {ci : Nat} {T : u_T} {N : Nat} {fs : List Value}
    (As : List Value) (S : CallFix p m c cc nL s args cu_G own) (hM : cu_R l D TY y bytes mL rt fr lo (.ref b :: As) wc post) (hd : cu_hd y n)
    (k1 : Cond.code y bytes mL (some rt) ∈ cu_G) (k2 : Cond.methodLink own index y ∈ cu_G) (k3 : Cond.instanceMethod y ∈ cu_G) (k4 : Cond.selects y.cls y y ∈ cu_G) (k5 : Cond.initialized y.cls ∈ cu_G)
    (hR : fr + 1 ≤ R.frames ∧ 8 + (mL + 11) + lo ≤ R.locals) (hc : cells ≤ R.cells ∧ slots ≤ R.slots)
    (hP : va_P D vwCl ws H) (hK : cu_K D TY s) (is : List Nat) (hs : is.map (fun i => ws[i]?) = wc.map some) (q0 : Nat) (hb : wc[q0]? = some (b, .inr (ci, fs))) (hci : vwCl[ci]? = some (y.cls, T, N))
    (hn : As.length = n) (hsz : ls.size = nL) (hst : st = As.reverse ++ .ref b :: rest) (hrm : (rest.map fun v => v.category).sum ≤ 8) (hdg : decode cc pc = .ok (.invokevirtual index, 3))
    (kk : ∀ r : Int32, post r → W p l e R s m args below meth c H locs cells slots Q (F0 m (pc + 3) ls (.int r :: rest))) : W p l e R s m args below meth c H locs cells slots Q (F0 m pc ls st) := by
  have hPc := hP.sub (ws' := wc) is (cu_fm hs)
  refine vp_callSi (rest := rest) (va_Run.run (va_runV (As := As) (rest := rest) S hM ⟨cu_cb S hd k1 k2 k5 hR, S.2.2.2.2 _ k3, S.2.2.2.2 _ k4⟩ ⟨fun a U g mk q => ⟨q.1, q.2.1, q.2.2.call⟩, va_recv hK.1 hPc hci hb, fun U hU hW => ⟨rfl, by rw [hU]; exact hPc, hK.warm hW⟩⟩ rfl hn hsz hst (lv_room hrm) hdg hc)) kk
theorem cu_SR {own : String} {nL mL index n fr lo : Nat} {y : MethodName} {bytes : ByteArray} {rt : FieldType} {st : List Value} {wc ws : va_W} {post : Int32 → Prop}
    (As : List Value) (S : CallFix p m c cc nL s args cu_G own) (hM : cu_R l D TY y bytes mL rt fr lo As wc post) (hd : cu_hd y n)
    (k1 : Cond.code y bytes mL (some rt) ∈ cu_G) (k2 : Cond.methodLink own index y ∈ cu_G) (k3 : Cond.static y ∈ cu_G) (k5 : Cond.initialized y.cls ∈ cu_G)
    (hR : fr + 1 ≤ R.frames ∧ 8 + (mL + 11) + lo ≤ R.locals) (hc : cells ≤ R.cells ∧ slots ≤ R.slots)
    (hP : va_P D vwCl ws H) (hK : cu_K D TY s) (is : List Nat) (hs : is.map (fun i => ws[i]?) = wc.map some)
    (hn : As.length = n) (hsz : ls.size = nL) (hst : st = As.reverse ++ rest) (hrm : (rest.map fun v => v.category).sum ≤ 8) (hdg : decode cc pc = .ok (.invokestatic index, 3))
    (kk : ∀ r : Int32, post r → W p l e R s m args below meth c H locs cells slots Q (F0 m (pc + 3) ls (.int r :: rest))) : W p l e R s m args below meth c H locs cells slots Q (F0 m pc ls st) := by
  have hPc := hP.sub (ws' := wc) is (cu_fm hs)
  refine vp_callSi (rest := rest) (va_Run.run (va_runS (As := As) (rest := rest) S hM ⟨cu_cb S hd k1 k2 k5 hR, S.2.2.2.2 _ k3⟩ ⟨fun a U g mk q => ⟨q.1, q.2.1, q.2.2.call⟩, fun U hU hW => ⟨rfl, by rw [hU]; exact hPc, hK.warm hW⟩⟩ rfl hn hsz hst (lv_room hrm) hdg hc)) kk
/-- what the writing calls share: the callee's cells cut out, its start -/
theorem cu_pv {ws wc : va_W} {av : List Value} (hP : va_P D vwCl ws H) (hD : va_D A ws) (hK : cu_K D TY s) {isC : List Nat} (hC : isC.map (fun i => ws[i]?) = wc.map some) (hnC : va_nd isC = true) :
    FrameBlind (va_Pc av (cu_pre D TY wc H.size)) ∧ ∀ U : State, U.heap = H → s.WarmedH U.vm → va_Pc av (cu_pre D TY wc H.size) av.toArray U :=
  ⟨fun a U g mk q => ⟨q.1, q.2.1, q.2.2.1, q.2.2.2.1.call, q.2.2.2.2⟩, fun U hU hW => ⟨rfl, by rw [hU], by rw [hU]; exact hP.sub (ws' := wc) isC (cu_fm hC), hK.warm hW, (hD.sub (ws' := wc) isC hnC hC).weaken (fun _ _ _ _ => trivial)⟩⟩
theorem cu_VW {own : String} {nL mL index n fr lo mc ms : Nat} {y : MethodName} {bytes : ByteArray} {rt : FieldType} {b : Nat} {st : List Value} {wc wr ws : va_W} {post : Int32 → va_W → Prop} {ci : Nat} {T : u_T} {N : Nat} {fs : List Value}
    (As : List Value) (S : CallFix p m c cc nL s args cu_G own) (hM : cu_W l D TY y bytes mL rt fr lo mc ms (.ref b :: As) wc post) (hd : cu_hd y n)
    (k1 : Cond.code y bytes mL (some rt) ∈ cu_G) (k2 : Cond.methodLink own index y ∈ cu_G) (k3 : Cond.instanceMethod y ∈ cu_G) (k4 : Cond.selects y.cls y y ∈ cu_G) (k5 : Cond.initialized y.cls ∈ cu_G)
    (hR : fr + 1 ≤ R.frames ∧ 8 + (mL + 11) + lo ≤ R.locals) (hc : cells + mc ≤ R.cells ∧ slots + ms ≤ R.slots)
    (hP : va_P D vwCl ws H) (hD : va_D A ws) (hS : va_S A H0 H locs) (hA : ∀ q, H0.size ≤ q → A q) (hK : cu_K D TY s) (isC isR : List Nat) (hC : isC.map (fun i => ws[i]?) = wc.map some) (hRr : isR.map (fun i => ws[i]?) = wr.map some) (hnC : va_nd isC = true) (hnR : va_nd isR = true) (hdis : ∀ i ∈ isR, i ∉ isC)
    (q0 : Nat) (hb : wc[q0]? = some (b, .inr (ci, fs))) (hci : vwCl[ci]? = some (y.cls, T, N))
    (hn : As.length = n) (hsz : ls.size = nL) (hst : st = As.reverse ++ .ref b :: rest) (hrm : (rest.map fun v => v.category).sum ≤ 8) (hdg : decode cc pc = .ok (.invokevirtual index, 3))
    (kk : ∀ (r : Int32) (w : va_W) (H1 : Heap) (locs1 : List Loc), post r w → va_P D vwCl (wr ++ w) H1 → va_D A (wr ++ w) → va_S A H0 H1 locs1 → W p l e R s m args below meth c H1 locs1 (cells + mc) (slots + ms) Q (F0 m (pc + 3) ls (.int r :: rest))) : W p l e R s m args below meth c H locs cells slots Q (F0 m pc ls st) := by
  have hF := va_free (wc := wc) hD hS hA isC hC
  have hpv := cu_pv (av := .ref b :: As) hP hD hK hC hnC
  refine va_calli (va_runV (As := As) (rest := rest) S (hM H.size) ⟨cu_cb S hd k1 k2 k5 hR, S.2.2.2.2 _ k3, S.2.2.2.2 _ k4⟩ ⟨hpv.1, va_recv hK.1 (hP.sub (ws' := wc) isC (cu_fm hC)) hci hb, hpv.2⟩ rfl hn hsz hst (lv_room hrm) hdg hc) hS (fun q _ h => hF q h) hF (fun r w t H1 locs1 ht hvm hw hB hz1 hk1 hS1 => ?_)
  obtain ⟨hP1, hD1⟩ := hB
  rw [ht] at hP1
  obtain ⟨hP2, hD2⟩ := va_join (wr := wr) (w1 := w) hP hD isC isR hC hRr hnR hdis hk1 hF hP1 hD1
  exact kk r w H1 locs1 hw hP2 hD2 hS1
theorem cu_VL {own : String} {nL mL index n fr lo mc ms : Nat} {y : MethodName} {bytes : ByteArray} {b : Nat} {st : List Value} {wc wr ws : va_W} {post : Int64 → va_W → Prop} {ci : Nat} {T : u_T} {N : Nat} {fs : List Value}
    (As : List Value) (S : CallFix p m c cc nL s args cu_G own) (hM : cu_L l D TY y bytes mL fr lo mc ms (.ref b :: As) wc post) (hd : cu_hd y n)
    (k1 : Cond.code y bytes mL (some .long) ∈ cu_G) (k2 : Cond.methodLink own index y ∈ cu_G) (k3 : Cond.instanceMethod y ∈ cu_G) (k4 : Cond.selects y.cls y y ∈ cu_G) (k5 : Cond.initialized y.cls ∈ cu_G)
    (hR : fr + 1 ≤ R.frames ∧ 8 + (mL + 11) + lo ≤ R.locals) (hc : cells + mc ≤ R.cells ∧ slots + ms ≤ R.slots)
    (hP : va_P D vwCl ws H) (hD : va_D A ws) (hS : va_S A H0 H locs) (hA : ∀ q, H0.size ≤ q → A q) (hK : cu_K D TY s) (isC isR : List Nat) (hC : isC.map (fun i => ws[i]?) = wc.map some) (hRr : isR.map (fun i => ws[i]?) = wr.map some) (hnC : va_nd isC = true) (hnR : va_nd isR = true) (hdis : ∀ i ∈ isR, i ∉ isC)
    (q0 : Nat) (hb : wc[q0]? = some (b, .inr (ci, fs))) (hci : vwCl[ci]? = some (y.cls, T, N))
    (hn : As.length = n) (hsz : ls.size = nL) (hst : st = As.reverse ++ .ref b :: rest) (hrm : (rest.map fun v => v.category).sum ≤ 8) (hdg : decode cc pc = .ok (.invokevirtual index, 3))
    (kk : ∀ (r : Int64) (w : va_W) (H1 : Heap) (locs1 : List Loc), post r w → va_P D vwCl (wr ++ w) H1 → va_D A (wr ++ w) → va_S A H0 H1 locs1 → W p l e R s m args below meth c H1 locs1 (cells + mc) (slots + ms) Q (F0 m (pc + 3) ls (.long r :: rest))) : W p l e R s m args below meth c H locs cells slots Q (F0 m pc ls st) := by
  have hF := va_free (wc := wc) hD hS hA isC hC
  have hpv := cu_pv (av := .ref b :: As) hP hD hK hC hnC
  refine va_calll (va_runV (As := As) (rest := rest) S (hM H.size) ⟨cu_cb S hd k1 k2 k5 hR, S.2.2.2.2 _ k3, S.2.2.2.2 _ k4⟩ ⟨hpv.1, va_recv hK.1 (hP.sub (ws' := wc) isC (cu_fm hC)) hci hb, hpv.2⟩ rfl hn hsz hst (lv_room hrm) hdg hc) hS (fun q _ h => hF q h) hF (fun r w t H1 locs1 ht hvm hw hB hz1 hk1 hS1 => ?_)
  obtain ⟨hP1, hD1⟩ := hB
  rw [ht] at hP1
  obtain ⟨hP2, hD2⟩ := va_join (wr := wr) (w1 := w) hP hD isC isR hC hRr hnR hdis hk1 hF hP1 hD1
  exact kk r w H1 locs1 hw hP2 hD2 hS1
theorem cu_VV {own : String} {nL mL index n fr lo mc ms : Nat} {y : MethodName} {bytes : ByteArray} {b : Nat} {st : List Value} {wc wr ws : va_W} {post : va_W → Prop} {ci : Nat} {T : u_T} {N : Nat} {fs : List Value}
    (As : List Value) (S : CallFix p m c cc nL s args cu_G own) (hM : cu_V l D TY y bytes mL fr lo mc ms (.ref b :: As) wc post) (hd : cu_hd y n)
    (k1 : Cond.code y bytes mL none ∈ cu_G) (k2 : Cond.methodLink own index y ∈ cu_G) (k3 : Cond.instanceMethod y ∈ cu_G) (k4 : Cond.selects y.cls y y ∈ cu_G) (k5 : Cond.initialized y.cls ∈ cu_G)
    (hR : fr + 1 ≤ R.frames ∧ 8 + (mL + 11) + lo ≤ R.locals) (hc : cells + mc ≤ R.cells ∧ slots + ms ≤ R.slots)
    (hP : va_P D vwCl ws H) (hD : va_D A ws) (hS : va_S A H0 H locs) (hA : ∀ q, H0.size ≤ q → A q) (hK : cu_K D TY s) (isC isR : List Nat) (hC : isC.map (fun i => ws[i]?) = wc.map some) (hRr : isR.map (fun i => ws[i]?) = wr.map some) (hnC : va_nd isC = true) (hnR : va_nd isR = true) (hdis : ∀ i ∈ isR, i ∉ isC)
    (q0 : Nat) (hb : wc[q0]? = some (b, .inr (ci, fs))) (hci : vwCl[ci]? = some (y.cls, T, N))
    (hn : As.length = n) (hsz : ls.size = nL) (hst : st = As.reverse ++ .ref b :: rest) (hrm : (rest.map fun v => v.category).sum ≤ 8) (hdg : decode cc pc = .ok (.invokevirtual index, 3))
    (kk : ∀ (w : va_W) (H1 : Heap) (locs1 : List Loc), post w → va_P D vwCl (wr ++ w) H1 → va_D A (wr ++ w) → va_S A H0 H1 locs1 → W p l e R s m args below meth c H1 locs1 (cells + mc) (slots + ms) Q (F0 m (pc + 3) ls rest)) : W p l e R s m args below meth c H locs cells slots Q (F0 m pc ls st) := by
  have hF := va_free (wc := wc) hD hS hA isC hC
  have hpv := cu_pv (av := .ref b :: As) hP hD hK hC hnC
  refine va_callv (va_runV (As := As) (rest := rest) S (hM H.size) ⟨cu_cb S hd k1 k2 k5 hR, S.2.2.2.2 _ k3, S.2.2.2.2 _ k4⟩ ⟨hpv.1, va_recv hK.1 (hP.sub (ws' := wc) isC (cu_fm hC)) hci hb, hpv.2⟩ rfl hn hsz hst (lv_room hrm) hdg hc) hS (fun q _ h => hF q h) hF (fun w t H1 locs1 ht hvm hw hB hz1 hk1 hS1 => ?_)
  obtain ⟨hP1, hD1⟩ := hB
  rw [ht] at hP1
  obtain ⟨hP2, hD2⟩ := va_join (wr := wr) (w1 := w) hP hD isC isR hC hRr hnR hdis hk1 hF hP1 hD1
  exact kk w H1 locs1 hw hP2 hD2 hS1
theorem cu_SV {own : String} {nL mL index n fr lo mc ms : Nat} {y : MethodName} {bytes : ByteArray} {st : List Value} {wc wr ws : va_W} {post : va_W → Prop}
    (As : List Value) (S : CallFix p m c cc nL s args cu_G own) (hM : cu_V l D TY y bytes mL fr lo mc ms As wc post) (hd : cu_hd y n)
    (k1 : Cond.code y bytes mL none ∈ cu_G) (k2 : Cond.methodLink own index y ∈ cu_G) (k3 : Cond.static y ∈ cu_G) (k5 : Cond.initialized y.cls ∈ cu_G)
    (hR : fr + 1 ≤ R.frames ∧ 8 + (mL + 11) + lo ≤ R.locals) (hc : cells + mc ≤ R.cells ∧ slots + ms ≤ R.slots)
    (hP : va_P D vwCl ws H) (hD : va_D A ws) (hS : va_S A H0 H locs) (hA : ∀ q, H0.size ≤ q → A q) (hK : cu_K D TY s) (isC isR : List Nat) (hC : isC.map (fun i => ws[i]?) = wc.map some) (hRr : isR.map (fun i => ws[i]?) = wr.map some) (hnC : va_nd isC = true) (hnR : va_nd isR = true) (hdis : ∀ i ∈ isR, i ∉ isC)
    (hn : As.length = n) (hsz : ls.size = nL) (hst : st = As.reverse ++ rest) (hrm : (rest.map fun v => v.category).sum ≤ 8) (hdg : decode cc pc = .ok (.invokestatic index, 3))
    (kk : ∀ (w : va_W) (H1 : Heap) (locs1 : List Loc), post w → va_P D vwCl (wr ++ w) H1 → va_D A (wr ++ w) → va_S A H0 H1 locs1 → W p l e R s m args below meth c H1 locs1 (cells + mc) (slots + ms) Q (F0 m (pc + 3) ls rest)) : W p l e R s m args below meth c H locs cells slots Q (F0 m pc ls st) := by
  have hF := va_free (wc := wc) hD hS hA isC hC
  have hpv := cu_pv (av := As) hP hD hK hC hnC
  refine va_callv (va_runS (As := As) (rest := rest) S (hM H.size) ⟨cu_cb S hd k1 k2 k5 hR, S.2.2.2.2 _ k3⟩ ⟨hpv.1, hpv.2⟩ rfl hn hsz hst (lv_room hrm) hdg hc) hS (fun q _ h => hF q h) hF (fun w t H1 locs1 ht hvm hw hB hz1 hk1 hS1 => ?_)
  obtain ⟨hP1, hD1⟩ := hB
  rw [ht] at hP1
  obtain ⟨hP2, hD2⟩ := va_join (wr := wr) (w1 := w) hP hD isC isR hC hRr hnR hdis hk1 hF hP1 hD1
  exact kk w H1 locs1 hw hP2 hD2 hS1
theorem cu_SW {own : String} {nL mL index n fr lo mc ms : Nat} {y : MethodName} {bytes : ByteArray} {rt : FieldType} {st : List Value} {wc wr ws : va_W} {post : Int32 → va_W → Prop}
    (As : List Value) (S : CallFix p m c cc nL s args cu_G own) (hM : cu_W l D TY y bytes mL rt fr lo mc ms As wc post) (hd : cu_hd y n)
    (k1 : Cond.code y bytes mL (some rt) ∈ cu_G) (k2 : Cond.methodLink own index y ∈ cu_G) (k3 : Cond.static y ∈ cu_G) (k5 : Cond.initialized y.cls ∈ cu_G)
    (hR : fr + 1 ≤ R.frames ∧ 8 + (mL + 11) + lo ≤ R.locals) (hc : cells + mc ≤ R.cells ∧ slots + ms ≤ R.slots)
    (hP : va_P D vwCl ws H) (hD : va_D A ws) (hS : va_S A H0 H locs) (hA : ∀ q, H0.size ≤ q → A q) (hK : cu_K D TY s) (isC isR : List Nat) (hC : isC.map (fun i => ws[i]?) = wc.map some) (hRr : isR.map (fun i => ws[i]?) = wr.map some) (hnC : va_nd isC = true) (hnR : va_nd isR = true) (hdis : ∀ i ∈ isR, i ∉ isC)
    (hn : As.length = n) (hsz : ls.size = nL) (hst : st = As.reverse ++ rest) (hrm : (rest.map fun v => v.category).sum ≤ 8) (hdg : decode cc pc = .ok (.invokestatic index, 3))
    (kk : ∀ (r : Int32) (w : va_W) (H1 : Heap) (locs1 : List Loc), post r w → va_P D vwCl (wr ++ w) H1 → va_D A (wr ++ w) → va_S A H0 H1 locs1 → W p l e R s m args below meth c H1 locs1 (cells + mc) (slots + ms) Q (F0 m (pc + 3) ls (.int r :: rest))) : W p l e R s m args below meth c H locs cells slots Q (F0 m pc ls st) := by
  have hF := va_free (wc := wc) hD hS hA isC hC
  have hpv := cu_pv (av := As) hP hD hK hC hnC
  refine va_calli (va_runS (As := As) (rest := rest) S (hM H.size) ⟨cu_cb S hd k1 k2 k5 hR, S.2.2.2.2 _ k3⟩ ⟨hpv.1, hpv.2⟩ rfl hn hsz hst (lv_room hrm) hdg hc) hS (fun q _ h => hF q h) hF (fun r w t H1 locs1 ht hvm hw hB hz1 hk1 hS1 => ?_)
  obtain ⟨hP1, hD1⟩ := hB
  rw [ht] at hP1
  obtain ⟨hP2, hD2⟩ := va_join (wr := wr) (w1 := w) hP hD isC isR hC hRr hnR hdis hk1 hF hP1 hD1
  exact kk r w H1 locs1 hw hP2 hD2 hS1
theorem cu_VQ {own : String} {nL mL index n fr lo mc ms : Nat} {y : MethodName} {bytes : ByteArray} {rt : String} {b : Nat} {st : List Value} {wc wr ws : va_W} {post : Nat × va_W → Prop} {ci : Nat} {T : u_T} {N : Nat} {fs : List Value}
    (As : List Value) (S : CallFix p m c cc nL s args cu_G own) (hM : cu_Q l D TY y bytes mL rt fr lo mc ms (.ref b :: As) wc post) (hd : cu_hd y n)
    (k1 : Cond.code y bytes mL (some (.object rt)) ∈ cu_G) (k2 : Cond.methodLink own index y ∈ cu_G) (k3 : Cond.instanceMethod y ∈ cu_G) (k4 : Cond.selects y.cls y y ∈ cu_G) (k5 : Cond.initialized y.cls ∈ cu_G)
    (hR : fr + 1 ≤ R.frames ∧ 8 + (mL + 11) + lo ≤ R.locals) (hc : cells + mc ≤ R.cells ∧ slots + ms ≤ R.slots)
    (hP : va_P D vwCl ws H) (hD : va_D A ws) (hS : va_S A H0 H locs) (hA : ∀ q, H0.size ≤ q → A q) (hK : cu_K D TY s) (isC isR : List Nat) (hC : isC.map (fun i => ws[i]?) = wc.map some) (hRr : isR.map (fun i => ws[i]?) = wr.map some) (hnC : va_nd isC = true) (hnR : va_nd isR = true) (hdis : ∀ i ∈ isR, i ∉ isC)
    (q0 : Nat) (hb : wc[q0]? = some (b, .inr (ci, fs))) (hci : vwCl[ci]? = some (y.cls, T, N))
    (hn : As.length = n) (hsz : ls.size = nL) (hst : st = As.reverse ++ .ref b :: rest) (hrm : (rest.map fun v => v.category).sum ≤ 8) (hdg : decode cc pc = .ok (.invokevirtual index, 3))
    (kk : ∀ (r : Nat) (w : va_W) (H1 : Heap) (locs1 : List Loc), post (r, w) → va_P D vwCl (wr ++ w) H1 → va_D A (wr ++ w) → va_S A H0 H1 locs1 → W p l e R s m args below meth c H1 locs1 (cells + mc) (slots + ms) Q (F0 m (pc + 3) ls (.ref r :: rest))) : W p l e R s m args below meth c H locs cells slots Q (F0 m pc ls st) := by
  have hF := va_free (wc := wc) hD hS hA isC hC
  have hpv := cu_pv (av := .ref b :: As) hP hD hK hC hnC
  refine va_callr (va_runV (As := As) (rest := rest) S (hM H.size) ⟨cu_cb S hd k1 k2 k5 hR, S.2.2.2.2 _ k3, S.2.2.2.2 _ k4⟩ ⟨hpv.1, va_recv hK.1 (hP.sub (ws' := wc) isC (cu_fm hC)) hci hb, hpv.2⟩ rfl hn hsz hst (lv_room hrm) hdg hc) hS (fun q _ h => hF q h) hF (fun u ra t H1 locs1 ht hvm hw hB hz1 hk1 hS1 => ?_)
  obtain ⟨r, w⟩ := u
  obtain ⟨hra, hP1, hD1⟩ := hB
  dsimp only at hra hP1 hD1
  subst hra
  rw [ht] at hP1
  obtain ⟨hP2, hD2⟩ := va_join (wr := wr) (w1 := w) hP hD isC isR hC hRr hnR hdis hk1 hF hP1 hD1
  exact kk r w H1 locs1 hw hP2 hD2 hS1
/-- constructors: of a public class, and of a nest mate's private one -/
theorem cu_IV {own : String} {nL mL index n fr lo mc ms : Nat} {y : MethodName} {bytes : ByteArray} {b : Nat} {st : List Value} {wc wr ws : va_W} {post : va_W → Prop}
    (As : List Value) (S : CallFix p m c cc nL s args cu_G own) (hM : cu_V l D TY y bytes mL fr lo mc ms (.ref b :: As) wc post) (hd : cu_hd y n)
    (k1 : Cond.code y bytes mL none ∈ cu_G) (k2 : Cond.methodLink own index y ∈ cu_G) (k3 : Cond.instanceMethod y ∈ cu_G) (k5 : Cond.initialized y.cls ∈ cu_G) (hy : y.name = "<init>")
    (hR : fr + 1 ≤ R.frames ∧ 8 + (mL + 11) + lo ≤ R.locals) (hc : cells + mc ≤ R.cells ∧ slots + ms ≤ R.slots)
    (hP : va_P D vwCl ws H) (hD : va_D A ws) (hS : va_S A H0 H locs) (hA : ∀ q, H0.size ≤ q → A q) (hK : cu_K D TY s) (isC isR : List Nat) (hC : isC.map (fun i => ws[i]?) = wc.map some) (hRr : isR.map (fun i => ws[i]?) = wr.map some) (hnC : va_nd isC = true) (hnR : va_nd isR = true) (hdis : ∀ i ∈ isR, i ∉ isC)
    (hn : As.length = n) (hsz : ls.size = nL) (hst : st = As.reverse ++ .ref b :: rest) (hrm : (rest.map fun v => v.category).sum ≤ 8) (hdg : decode cc pc = .ok (.invokespecial index, 3))
    (kk : ∀ (w : va_W) (H1 : Heap) (locs1 : List Loc), post w → va_P D vwCl (wr ++ w) H1 → va_D A (wr ++ w) → va_S A H0 H1 locs1 → W p l e R s m args below meth c H1 locs1 (cells + mc) (slots + ms) Q (F0 m (pc + 3) ls rest)) : W p l e R s m args below meth c H locs cells slots Q (F0 m pc ls st) := by
  have hF := va_free (wc := wc) hD hS hA isC hC
  have hpv := cu_pv (av := .ref b :: As) hP hD hK hC hnC
  refine va_callv (va_runI (As := As) (rest := rest) S (hM H.size) ⟨cu_cb S hd k1 k2 k5 hR, hy, S.2.2.2.2 _ k3⟩ ⟨hpv.1, hpv.2⟩ rfl hn hsz hst (lv_room hrm) hdg hc) hS (fun q _ h => hF q h) hF (fun w t H1 locs1 ht hvm hw hB hz1 hk1 hS1 => ?_)
  obtain ⟨hP1, hD1⟩ := hB
  rw [ht] at hP1
  obtain ⟨hP2, hD2⟩ := va_join (wr := wr) (w1 := w) hP hD isC isR hC hRr hnR hdis hk1 hF hP1 hD1
  exact kk w H1 locs1 hw hP2 hD2 hS1
theorem cu_NV {own host : String} {nL mL index n fr lo mc ms : Nat} {y : MethodName} {bytes : ByteArray} {b : Nat} {st : List Value} {wc wr ws : va_W} {post : va_W → Prop}
    (As : List Value) (S : CallFix p m c cc nL s args cu_G own) (hM : cu_V l D TY y bytes mL fr lo mc ms (.ref b :: As) wc post) (hd : cu_hd y n)
    (k1 : Cond.code y bytes mL none ∈ cu_G) (k2 : va_Nw (.methodLinkNest own index y host) s) (k3 : Cond.instanceMethod y ∈ cu_G) (k5 : Cond.initialized y.cls ∈ cu_G) (hy : y.name = "<init>")
    (hR : fr + 1 ≤ R.frames ∧ 8 + (mL + 11) + lo ≤ R.locals) (hc : cells + mc ≤ R.cells ∧ slots + ms ≤ R.slots)
    (hP : va_P D vwCl ws H) (hD : va_D A ws) (hS : va_S A H0 H locs) (hA : ∀ q, H0.size ≤ q → A q) (hK : cu_K D TY s) (isC isR : List Nat) (hC : isC.map (fun i => ws[i]?) = wc.map some) (hRr : isR.map (fun i => ws[i]?) = wr.map some) (hnC : va_nd isC = true) (hnR : va_nd isR = true) (hdis : ∀ i ∈ isR, i ∉ isC)
    (hn : As.length = n) (hsz : ls.size = nL) (hst : st = As.reverse ++ .ref b :: rest) (hrm : (rest.map fun v => v.category).sum ≤ 8) (hdg : decode cc pc = .ok (.invokespecial index, 3))
    (kk : ∀ (w : va_W) (H1 : Heap) (locs1 : List Loc), post w → va_P D vwCl (wr ++ w) H1 → va_D A (wr ++ w) → va_S A H0 H1 locs1 → W p l e R s m args below meth c H1 locs1 (cells + mc) (slots + ms) Q (F0 m (pc + 3) ls rest)) : W p l e R s m args below meth c H locs cells slots Q (F0 m pc ls st) := by
  have hF := va_free (wc := wc) hD hS hA isC hC
  have hpv := cu_pv (av := .ref b :: As) hP hD hK hC hnC
  refine va_callv (va_runIN (As := As) (rest := rest) S (hM H.size) ⟨va_cnB n S.2.2.2.2 (cu_in k1) rfl rfl rfl k2 (S.2.2.2.2 _ k5) hd hR, hy, S.2.2.2.2 _ k3⟩ ⟨hpv.1, hpv.2⟩ rfl hn hsz hst (lv_room hrm) hdg hc) hS (fun q _ h => hF q h) hF (fun w t H1 locs1 ht hvm hw hB hz1 hk1 hS1 => ?_)
  obtain ⟨hP1, hD1⟩ := hB
  rw [ht] at hP1
  obtain ⟨hP2, hD2⟩ := va_join (wr := wr) (w1 := w) hP hD isC isR hC hRr hnR hdis hk1 hF hP1 hD1
  exact kk w H1 locs1 hw hP2 hD2 hS1
/-- new rows of ints and booleans, whose class is the one that the tables name -/
theorem cu_newI (N' : Nat) {cI cZ cQ : ClassId} {ws : va_W} (hexec : p.tables.exec = Jvm.exec) (hb : c.code = cc) (harr : (Cond.arrayClass .int).before args s = true) (hK : cu_K D (cu_TY cI cZ cQ) s) (hP : va_P D vwCl ws H) (hD : va_D A ws) (hS : va_S A H0 H locs) (hA : ∀ q, H0.size ≤ q → A q)
    {n : Int32} (hn : ¬ n < 0) (hN : n.toNatClampNeg = N') (hbytes : N' * 4 ≤ 536870912) (hcells : cells + 1 ≤ R.cells) (hslots : slots + N' ≤ R.slots) (hdg : decode cc pc = .ok (.newarray .int, 2))
    (kk : ∀ (q : Nat) (H1 : Heap), va_P D vwCl (ws ++ [(q, .inl (cI, N', .inl (fun _ => 0)))]) H1 → va_D A (ws ++ [(q, .inl (cI, N', .inl (fun _ => 0)))]) → va_S A H0 H1 locs → W p l e R s m args below meth c H1 locs (cells + 1) (slots + N') Q (F0 m (pc + 2) ls (.ref q :: rest))) : W p l e R s m args below meth c H locs cells slots Q (F0 m pc ls (.int n :: rest)) := by
  refine va_newa (atype := .int) (ty := .int) (N' := N') (a0 := (N', .inl (fun _ => 0))) hexec hb harr rfl hK.1 hP hD hS hA (fun cA => rfl) hn hN hbytes hcells hslots hdg (fun q cA H1 hK1 hP1 hD1 hS1 => ?_)
  have h1 := (hK.1.2 0 (cI, .int) rfl).2
  have h2 := (hK1.2 3 (cA, .int) rfl).2
  have h3 : cA = cI := Option.some.inj (h2.symm.trans h1)
  subst h3
  exact kk q H1 hP1 hD1 hS1
theorem cu_newZ (N' : Nat) {cI cZ cQ : ClassId} {ws : va_W} (hexec : p.tables.exec = Jvm.exec) (hb : c.code = cc) (harr : (Cond.arrayClass .boolean).before args s = true) (hK : cu_K D (cu_TY cI cZ cQ) s) (hP : va_P D vwCl ws H) (hD : va_D A ws) (hS : va_S A H0 H locs) (hA : ∀ q, H0.size ≤ q → A q)
    {n : Int32} (hn : ¬ n < 0) (hN : n.toNatClampNeg = N') (hbytes : N' * 1 ≤ 536870912) (hcells : cells + 1 ≤ R.cells) (hslots : slots + N' ≤ R.slots) (hdg : decode cc pc = .ok (.newarray .boolean, 2))
    (kk : ∀ (q : Nat) (H1 : Heap), va_P D vwCl (ws ++ [(q, .inl (cZ, N', .inl (fun _ => 0)))]) H1 → va_D A (ws ++ [(q, .inl (cZ, N', .inl (fun _ => 0)))]) → va_S A H0 H1 locs → W p l e R s m args below meth c H1 locs (cells + 1) (slots + N') Q (F0 m (pc + 2) ls (.ref q :: rest))) : W p l e R s m args below meth c H locs cells slots Q (F0 m pc ls (.int n :: rest)) := by
  refine va_newa (atype := .boolean) (ty := .boolean) (N' := N') (a0 := (N', .inl (fun _ => 0))) hexec hb harr rfl hK.1 hP hD hS hA (fun cA => rfl) hn hN hbytes hcells hslots hdg (fun q cA H1 hK1 hP1 hD1 hS1 => ?_)
  have h1 := (hK.1.2 1 (cZ, .boolean) rfl).2
  have h2 := (hK1.2 3 (cA, .boolean) rfl).2
  have h3 : cA = cZ := Option.some.inj (h2.symm.trans h1)
  subst h3
  exact kk q H1 hP1 hD1 hS1
theorem cu_newH (N' : Nat) {cI cZ cQ : ClassId} {own : String} {index : Nat} {ws : va_W} (hexec : p.tables.exec = Jvm.exec) (hb : c.code = cc) (hown : s.vm.findClass own = some m.cls) (hcl : (Cond.classLink own index "CommonUnits$Hoard").before args s = true) (hK : cu_K D (cu_TY cI cZ cQ) s) (hP : va_P D vwCl ws H) (hD : va_D A ws) (hS : va_S A H0 H locs) (hA : ∀ q, H0.size ≤ q → A q)
    {n : Int32} (hn : ¬ n < 0) (hN : n.toNatClampNeg = N') (hbytes : N' * 4 ≤ 536870912) (hcells : cells + 1 ≤ R.cells) (hslots : slots + N' ≤ R.slots) (hdg : decode cc pc = .ok (.anewarray index, 3))
    (kk : ∀ (q : Nat) (H1 : Heap), va_P D vwCl (ws ++ [(q, .inl (cQ, N', .inr (.inr (.inr (.inr (fun _ => none))))))]) H1 → va_D A (ws ++ [(q, .inl (cQ, N', .inr (.inr (.inr (.inr (fun _ => none))))))]) → va_S A H0 H1 locs → W p l e R s m args below meth c H1 locs (cells + 1) (slots + N') Q (F0 m (pc + 3) ls (.ref q :: rest))) : W p l e R s m args below meth c H locs cells slots Q (F0 m pc ls (.int n :: rest)) := by
  refine va_newq (C := "CommonUnits$Hoard") (N' := N') hexec hb hown hcl hK.2.1 hK.1 hP hD hS hA hn hN hbytes hcells hslots hdg (fun q cA H1 hK1 hP1 hD1 hS1 => ?_)
  obtain ⟨_, _, _, _, _, h1⟩ := (hK.1.2 2 (cQ, .object "CommonUnits$Hoard") rfl).2
  obtain ⟨_, _, _, _, _, h2⟩ := (hK1.2 3 (cA, .object "CommonUnits$Hoard") rfl).2
  have h3 : cA = cQ := Option.some.inj (h2.symm.trans h1)
  subst h3
  exact kk q H1 hP1 hD1 hS1
end CU
end
section
theorem d_X3_hasCoin_0 : decode cX3_hasCoin 0 = .ok (.iload_n 1, 1) := by decide +kernel
theorem d_X3_hasCoin_1 : decode cX3_hasCoin 1 = .ok (.ifCond .lt 15, 3) := by decide +kernel
theorem d_X3_hasCoin_16 : decode cX3_hasCoin 16 = .ok (.iconst 0, 1) := by decide +kernel
theorem d_X3_hasCoin_17 : decode cX3_hasCoin 17 = .ok (.ireturn, 1) := by decide +kernel
theorem d_X3_hasCoin_4 : decode cX3_hasCoin 4 = .ok (.iload_n 1, 1) := by decide +kernel
theorem d_X3_hasCoin_5 : decode cX3_hasCoin 5 = .ok (.aload_n 0, 1) := by decide +kernel
theorem d_X3_hasCoin_6 : decode cX3_hasCoin 6 = .ok (.getfield 28, 3) := by decide +kernel
theorem k_94 : (.fieldLink RX3 28 "CommonUnits$Hoard" "coins" "I" : Cond) ∈ cu_G := cu_mem 94 (by decide +kernel) (by decide +kernel)
theorem d_X3_hasCoin_9 : decode cX3_hasCoin 9 = .ok (.if_icmp .ge 7, 3) := by decide +kernel
theorem d_X3_hasMint_0 : decode cX3_hasMint 0 = .ok (.iload_n 1, 1) := by decide +kernel
theorem d_X3_hasMint_1 : decode cX3_hasMint 1 = .ok (.ifCond .lt 15, 3) := by decide +kernel
theorem d_X3_hasMint_16 : decode cX3_hasMint 16 = .ok (.iconst 0, 1) := by decide +kernel
theorem d_X3_hasMint_17 : decode cX3_hasMint 17 = .ok (.ireturn, 1) := by decide +kernel
theorem d_X3_hasMint_4 : decode cX3_hasMint 4 = .ok (.iload_n 1, 1) := by decide +kernel
theorem d_X3_hasMint_5 : decode cX3_hasMint 5 = .ok (.aload_n 0, 1) := by decide +kernel
theorem d_X3_hasMint_6 : decode cX3_hasMint 6 = .ok (.getfield 31, 3) := by decide +kernel
theorem k_97 : (.fieldLink RX3 31 "CommonUnits$Hoard" "mints" "I" : Cond) ∈ cu_G := cu_mem 97 (by decide +kernel) (by decide +kernel)
theorem d_X3_hasMint_9 : decode cX3_hasMint 9 = .ok (.if_icmp .ge 7, 3) := by decide +kernel
theorem d_X3_counts_0 : decode cX3_counts 0 = .ok (.aload_n 0, 1) := by decide +kernel
theorem d_X3_counts_1 : decode cX3_counts 1 = .ok (.iload_n 1, 1) := by decide +kernel
theorem d_X3_counts_2 : decode cX3_counts 2 = .ok (.invokevirtual 37, 3) := by decide +kernel
theorem hd_X3_hasCoin : cu_hd yX3_hasCoin 1 := by decide +kernel
theorem k_281 : (.code yX3_hasCoin cX3_hasCoin 2 (some .boolean) : Cond) ∈ cu_G := cu_mem 281 (by decide +kernel) (by decide +kernel)
theorem k_45 : (.initialized RX3 : Cond) ∈ cu_G := cu_mem 45 (by decide +kernel) (by decide +kernel)
theorem k_286 : (.methodLink RX3 37 yX3_hasCoin : Cond) ∈ cu_G := cu_mem 286 (by decide +kernel) (by decide +kernel)
theorem k_279 : (.instanceMethod yX3_hasCoin : Cond) ∈ cu_G := cu_mem 279 (by decide +kernel) (by decide +kernel)
theorem k_280 : (.selects RX3 yX3_hasCoin yX3_hasCoin : Cond) ∈ cu_G := cu_mem 280 (by decide +kernel) (by decide +kernel)
theorem d_X3_counts_5 : decode cX3_counts 5 = .ok (.ifCond .eq 16, 3) := by decide +kernel
theorem d_X3_counts_21 : decode cX3_counts 21 = .ok (.iconst 0, 1) := by decide +kernel
theorem d_X3_counts_22 : decode cX3_counts 22 = .ok (.ireturn, 1) := by decide +kernel
theorem d_X3_placeOf_0 : decode cX3_placeOf 0 = .ok (.iconst 0, 1) := by decide +kernel
theorem d_X3_placeOf_1 : decode cX3_placeOf 1 = .ok (.istore_n 2, 1) := by decide +kernel
theorem d_X3_placeOf_2 : decode cX3_placeOf 2 = .ok (.iconst 0, 1) := by decide +kernel
theorem d_X3_placeOf_3 : decode cX3_placeOf 3 = .ok (.istore_n 3, 1) := by decide +kernel
theorem d_X3_placeOf_4 : decode cX3_placeOf 4 = .ok (.iload_n 3, 1) := by decide +kernel
theorem d_X3_placeOf_5 : decode cX3_placeOf 5 = .ok (.aload_n 0, 1) := by decide +kernel
theorem d_X3_placeOf_6 : decode cX3_placeOf 6 = .ok (.getfield 28, 3) := by decide +kernel
theorem d_X3_placeOf_9 : decode cX3_placeOf 9 = .ok (.if_icmp .ge 25, 3) := by decide +kernel
theorem d_X3_placeOf_34 : decode cX3_placeOf 34 = .ok (.iload_n 2, 1) := by decide +kernel
theorem d_X3_placeOf_35 : decode cX3_placeOf 35 = .ok (.ireturn, 1) := by decide +kernel
theorem d_X3_counted_0 : decode cX3_counted 0 = .ok (.aload_n 0, 1) := by decide +kernel
theorem d_X3_counted_1 : decode cX3_counted 1 = .ok (.aload_n 0, 1) := by decide +kernel
theorem d_X3_counted_2 : decode cX3_counted 2 = .ok (.getfield 28, 3) := by decide +kernel
theorem d_X3_counted_5 : decode cX3_counted 5 = .ok (.invokevirtual 41, 3) := by decide +kernel
theorem hd_X3_placeOf : cu_hd yX3_placeOf 1 := by decide +kernel
theorem k_601 : (.code yX3_placeOf cX3_placeOf 4 (some .int) : Cond) ∈ cu_G := cu_mem 601 (by decide +kernel) (by decide +kernel)
theorem k_598 : (.methodLink RX3 41 yX3_placeOf : Cond) ∈ cu_G := cu_mem 598 (by decide +kernel) (by decide +kernel)
theorem k_599 : (.instanceMethod yX3_placeOf : Cond) ∈ cu_G := cu_mem 599 (by decide +kernel) (by decide +kernel)
theorem k_600 : (.selects RX3 yX3_placeOf yX3_placeOf : Cond) ∈ cu_G := cu_mem 600 (by decide +kernel) (by decide +kernel)
theorem d_X3_counted_8 : decode cX3_counted 8 = .ok (.ireturn, 1) := by decide +kernel
theorem d_X3_setAside_0 : decode cX3_setAside 0 = .ok (.iconst 0, 1) := by decide +kernel
theorem d_X3_setAside_1 : decode cX3_setAside 1 = .ok (.istore_n 1, 1) := by decide +kernel
theorem d_X3_setAside_2 : decode cX3_setAside 2 = .ok (.iconst 0, 1) := by decide +kernel
theorem d_X3_setAside_3 : decode cX3_setAside 3 = .ok (.istore_n 2, 1) := by decide +kernel
theorem d_X3_setAside_4 : decode cX3_setAside 4 = .ok (.iload_n 2, 1) := by decide +kernel
theorem d_X3_setAside_5 : decode cX3_setAside 5 = .ok (.aload_n 0, 1) := by decide +kernel
theorem d_X3_setAside_6 : decode cX3_setAside 6 = .ok (.getfield 28, 3) := by decide +kernel
theorem d_X3_setAside_9 : decode cX3_setAside 9 = .ok (.if_icmp .ge 20, 3) := by decide +kernel
theorem d_X3_setAside_29 : decode cX3_setAside 29 = .ok (.iload_n 1, 1) := by decide +kernel
theorem d_X3_setAside_30 : decode cX3_setAside 30 = .ok (.ireturn, 1) := by decide +kernel
theorem d_X3_setOfMint_0 : decode cX3_setOfMint 0 = .ok (.iconst 0, 1) := by decide +kernel
theorem d_X3_setOfMint_1 : decode cX3_setOfMint 1 = .ok (.istore_n 2, 1) := by decide +kernel
theorem d_X3_setOfMint_2 : decode cX3_setOfMint 2 = .ok (.iconst 0, 1) := by decide +kernel
theorem d_X3_setOfMint_3 : decode cX3_setOfMint 3 = .ok (.istore_n 3, 1) := by decide +kernel
theorem d_X3_setOfMint_4 : decode cX3_setOfMint 4 = .ok (.iload_n 3, 1) := by decide +kernel
theorem d_X3_setOfMint_5 : decode cX3_setOfMint 5 = .ok (.aload_n 0, 1) := by decide +kernel
theorem d_X3_setOfMint_6 : decode cX3_setOfMint 6 = .ok (.getfield 28, 3) := by decide +kernel
theorem d_X3_setOfMint_9 : decode cX3_setOfMint 9 = .ok (.if_icmp .ge 32, 3) := by decide +kernel
theorem d_X3_setOfMint_41 : decode cX3_setOfMint 41 = .ok (.iload_n 2, 1) := by decide +kernel
theorem d_X3_setOfMint_42 : decode cX3_setOfMint 42 = .ok (.ireturn, 1) := by decide +kernel
theorem d_X3_explainedBy_0 : decode cX3_explainedBy 0 = .ok (.iconst 0, 1) := by decide +kernel
theorem d_X3_explainedBy_1 : decode cX3_explainedBy 1 = .ok (.istore_n 2, 1) := by decide +kernel
theorem d_X3_explainedBy_2 : decode cX3_explainedBy 2 = .ok (.iconst 0, 1) := by decide +kernel
theorem d_X3_explainedBy_3 : decode cX3_explainedBy 3 = .ok (.istore_n 3, 1) := by decide +kernel
theorem d_X3_explainedBy_4 : decode cX3_explainedBy 4 = .ok (.iload_n 3, 1) := by decide +kernel
theorem d_X3_explainedBy_5 : decode cX3_explainedBy 5 = .ok (.aload_n 0, 1) := by decide +kernel
theorem d_X3_explainedBy_6 : decode cX3_explainedBy 6 = .ok (.getfield 28, 3) := by decide +kernel
theorem d_X3_explainedBy_9 : decode cX3_explainedBy 9 = .ok (.if_icmp .ge 34, 3) := by decide +kernel
theorem d_X3_explainedBy_43 : decode cX3_explainedBy 43 = .ok (.iload_n 2, 1) := by decide +kernel
theorem d_X3_explainedBy_44 : decode cX3_explainedBy 44 = .ok (.ireturn, 1) := by decide +kernel
theorem d_X3_lossesOf_0 : decode cX3_lossesOf 0 = .ok (.iconst 0, 1) := by decide +kernel
theorem d_X3_lossesOf_1 : decode cX3_lossesOf 1 = .ok (.istore_n 3, 1) := by decide +kernel
theorem d_X3_lossesOf_2 : decode cX3_lossesOf 2 = .ok (.iconst 0, 1) := by decide +kernel
theorem d_X3_lossesOf_3 : decode cX3_lossesOf 3 = .ok (.istore 4, 2) := by decide +kernel
theorem d_X3_lossesOf_5 : decode cX3_lossesOf 5 = .ok (.iload 4, 2) := by decide +kernel
theorem d_X3_lossesOf_7 : decode cX3_lossesOf 7 = .ok (.aload_n 0, 1) := by decide +kernel
theorem d_X3_lossesOf_8 : decode cX3_lossesOf 8 = .ok (.getfield 28, 3) := by decide +kernel
theorem d_X3_lossesOf_11 : decode cX3_lossesOf 11 = .ok (.if_icmp .ge 29, 3) := by decide +kernel
theorem d_X3_lossesOf_40 : decode cX3_lossesOf 40 = .ok (.iload_n 3, 1) := by decide +kernel
theorem d_X3_lossesOf_41 : decode cX3_lossesOf 41 = .ok (.ireturn, 1) := by decide +kernel
theorem d_X3_lackOf_0 : decode cX3_lackOf 0 = .ok (.iconst 0, 1) := by decide +kernel
theorem d_X3_lackOf_1 : decode cX3_lackOf 1 = .ok (.istore_n 3, 1) := by decide +kernel
theorem d_X3_lackOf_2 : decode cX3_lackOf 2 = .ok (.iconst 0, 1) := by decide +kernel
theorem d_X3_lackOf_3 : decode cX3_lackOf 3 = .ok (.istore 4, 2) := by decide +kernel
theorem d_X3_lackOf_5 : decode cX3_lackOf 5 = .ok (.iload 4, 2) := by decide +kernel
theorem d_X3_lackOf_7 : decode cX3_lackOf 7 = .ok (.aload_n 0, 1) := by decide +kernel
theorem d_X3_lackOf_8 : decode cX3_lackOf 8 = .ok (.getfield 28, 3) := by decide +kernel
theorem d_X3_lackOf_11 : decode cX3_lackOf 11 = .ok (.if_icmp .ge 43, 3) := by decide +kernel
theorem d_X3_lackOf_54 : decode cX3_lackOf 54 = .ok (.iload_n 3, 1) := by decide +kernel
theorem d_X3_lackOf_55 : decode cX3_lackOf 55 = .ok (.ireturn, 1) := by decide +kernel
theorem d_X3_recognizes_0 : decode cX3_recognizes 0 = .ok (.aload_n 0, 1) := by decide +kernel
theorem d_X3_recognizes_1 : decode cX3_recognizes 1 = .ok (.getfield 31, 3) := by decide +kernel
theorem d_X3_recognizes_4 : decode cX3_recognizes 4 = .ok (.iconst 1, 1) := by decide +kernel
theorem d_X3_recognizes_5 : decode cX3_recognizes 5 = .ok (.if_icmp .ge 8, 3) := by decide +kernel
theorem d_X3_recognizes_8 : decode cX3_recognizes 8 = .ok (.bipush (-9), 2) := by decide +kernel
theorem d_X3_recognizes_10 : decode cX3_recognizes 10 = .ok (.goto 9, 3) := by decide +kernel
theorem d_X3_recognizes_19 : decode cX3_recognizes 19 = .ok (.istore_n 2, 1) := by decide +kernel
theorem d_X3_recognizes_20 : decode cX3_recognizes 20 = .ok (.aload_n 0, 1) := by decide +kernel
theorem d_X3_recognizes_21 : decode cX3_recognizes 21 = .ok (.iload_n 2, 1) := by decide +kernel
theorem d_X3_recognizes_22 : decode cX3_recognizes 22 = .ok (.invokevirtual 81, 3) := by decide +kernel
theorem hd_X3_hasMint : cu_hd yX3_hasMint 1 := by decide +kernel
theorem k_321 : (.code yX3_hasMint cX3_hasMint 2 (some .boolean) : Cond) ∈ cu_G := cu_mem 321 (by decide +kernel) (by decide +kernel)
theorem k_660 : (.methodLink RX3 81 yX3_hasMint : Cond) ∈ cu_G := cu_mem 660 (by decide +kernel) (by decide +kernel)
theorem k_319 : (.instanceMethod yX3_hasMint : Cond) ∈ cu_G := cu_mem 319 (by decide +kernel) (by decide +kernel)
theorem k_320 : (.selects RX3 yX3_hasMint yX3_hasMint : Cond) ∈ cu_G := cu_mem 320 (by decide +kernel) (by decide +kernel)
theorem d_X3_recognizes_25 : decode cX3_recognizes 25 = .ok (.ifCond .ne 5, 3) := by decide +kernel
theorem d_X3_recognizes_28 : decode cX3_recognizes 28 = .ok (.iconst 0, 1) := by decide +kernel
theorem d_X3_recognizes_29 : decode cX3_recognizes 29 = .ok (.ireturn, 1) := by decide +kernel
set_option maxHeartbeats 4000000 in
set_option maxRecDepth 100000 in
theorem c_X3_hasCoin (l : Launch) (D : va_G) (cI cZ cQ : ClassId) (h w y a u : Nat) (rt lw : Int32) (c1 : Int32) : cu_R l D (cu_TY cI cZ cQ) yX3_hasCoin cX3_hasCoin 2 .boolean 0 0 [.ref h, .int c1] [(h, .inr (2, [.ref w, .ref y, .ref a, .ref u, .int 0, .int 0, .int rt, .int lw]))] (fun r => r = 0) := by
  refine cu_R.intro (by decide) (Nat.le_of_ble_eq_true rfl) ?_
  intro p e s m args below meth c Q ls S hret hP hK hl
  obtain ⟨hx, hb, hml, hown, hg⟩ := S
  have hown : s.vm.findClass RX3 = some m.cls := hown
  have hl : lv_has ls 2 [(0, .ref h), (1, .int c1)] := hl
  refine lv_iload_n hx hb d_X3_hasCoin_0 rfl (lv_at hl 1 rfl) ?_
  refine lv_if_lt (tgt := 16) hx hb d_X3_hasCoin_1 (by decide) (fun c_1 => ?_) (fun c_1 => ?_)
  · skip
    refine lv_iconst (v := 0) hx hb d_X3_hasCoin_16 (by decide) ?_
    exact hret _ _ _ d_X3_hasCoin_17 (by decide +kernel) (rfl)
  · skip
    refine lv_iload_n hx hb d_X3_hasCoin_4 rfl (lv_at hl 1 rfl) ?_
    refine lv_aload_n hx hb d_X3_hasCoin_5 rfl (lv_at hl 0 rfl) ?_
    refine va_get (D := D) (ci := 2) (v := .int 0) (C := RX3) (T := TX3) (N := 8) hx hb hg cu_iX3 hown hK.1 hP 0 rfl rfl 4 (by decide) (hg _ k_94) (fun _ h9 => h9) rfl d_X3_hasCoin_6 ?_
    refine lv_icmp_ge (tgt := 16) hx hb d_X3_hasCoin_9 (by decide) (fun _ => ?_) (fun c_2 => absurd (Int32.not_lt.mp c_1) c_2)
    refine lv_iconst (v := 0) hx hb d_X3_hasCoin_16 (by decide) ?_
    exact hret _ _ _ d_X3_hasCoin_17 (by decide +kernel) (rfl)
set_option maxHeartbeats 4000000 in
set_option maxRecDepth 100000 in
theorem c_X3_hasMint (l : Launch) (D : va_G) (cI cZ cQ : ClassId) (h w y a u : Nat) (rt lw : Int32) (c1 : Int32) : cu_R l D (cu_TY cI cZ cQ) yX3_hasMint cX3_hasMint 2 .boolean 0 0 [.ref h, .int c1] [(h, .inr (2, [.ref w, .ref y, .ref a, .ref u, .int 0, .int 0, .int rt, .int lw]))] (fun r => r = 0) := by
  refine cu_R.intro (by decide) (Nat.le_of_ble_eq_true rfl) ?_
  intro p e s m args below meth c Q ls S hret hP hK hl
  obtain ⟨hx, hb, hml, hown, hg⟩ := S
  have hown : s.vm.findClass RX3 = some m.cls := hown
  have hl : lv_has ls 2 [(0, .ref h), (1, .int c1)] := hl
  refine lv_iload_n hx hb d_X3_hasMint_0 rfl (lv_at hl 1 rfl) ?_
  refine lv_if_lt (tgt := 16) hx hb d_X3_hasMint_1 (by decide) (fun c_1 => ?_) (fun c_1 => ?_)
  · skip
    refine lv_iconst (v := 0) hx hb d_X3_hasMint_16 (by decide) ?_
    exact hret _ _ _ d_X3_hasMint_17 (by decide +kernel) (rfl)
  · skip
    refine lv_iload_n hx hb d_X3_hasMint_4 rfl (lv_at hl 1 rfl) ?_
    refine lv_aload_n hx hb d_X3_hasMint_5 rfl (lv_at hl 0 rfl) ?_
    refine va_get (D := D) (ci := 2) (v := .int 0) (C := RX3) (T := TX3) (N := 8) hx hb hg cu_iX3 hown hK.1 hP 0 rfl rfl 5 (by decide) (hg _ k_97) (fun _ h9 => h9) rfl d_X3_hasMint_6 ?_
    refine lv_icmp_ge (tgt := 16) hx hb d_X3_hasMint_9 (by decide) (fun _ => ?_) (fun c_2 => absurd (Int32.not_lt.mp c_1) c_2)
    refine lv_iconst (v := 0) hx hb d_X3_hasMint_16 (by decide) ?_
    exact hret _ _ _ d_X3_hasMint_17 (by decide +kernel) (rfl)
set_option maxHeartbeats 4000000 in
set_option maxRecDepth 100000 in
theorem c_X3_counts (l : Launch) (D : va_G) (cI cZ cQ : ClassId) (h w y a u : Nat) (rt lw : Int32) (c1 : Int32) : cu_R l D (cu_TY cI cZ cQ) yX3_counts cX3_counts 2 .boolean 1 21 [.ref h, .int c1] [(h, .inr (2, [.ref w, .ref y, .ref a, .ref u, .int 0, .int 0, .int rt, .int lw]))] (fun r => r = 0) := by
  refine cu_R.intro (by decide) (Nat.le_of_ble_eq_true rfl) ?_
  intro p e s m args below meth c Q ls S hret hP hK hl
  obtain ⟨hx, hb, hml, hown, hg⟩ := S
  have hown : s.vm.findClass RX3 = some m.cls := hown
  have hl : lv_has ls 2 [(0, .ref h), (1, .int c1)] := hl
  refine lv_aload_n hx hb d_X3_counts_0 rfl (lv_at hl 0 rfl) ?_
  refine lv_iload_n hx hb d_X3_counts_1 rfl (lv_at hl 1 rfl) ?_
  refine cu_VR (wc := [(h, .inr (2, [.ref w, .ref y, .ref a, .ref u, .int 0, .int 0, .int rt, .int lw]))]) (rest := []) [.int c1] ⟨hx, hb, hml, hown, hg⟩ (c_X3_hasCoin l D cI cZ cQ h w y a u rt lw c1) hd_X3_hasCoin k_281 k_286 k_279 k_280 k_45 ⟨Nat.le_of_ble_eq_true rfl, Nat.le_of_ble_eq_true rfl⟩ ⟨Nat.le_of_ble_eq_true rfl, Nat.le_of_ble_eq_true rfl⟩ hP hK [0] rfl 0 rfl rfl rfl hl.1 rfl (Nat.le_of_ble_eq_true rfl) d_X3_counts_2 (fun r_1 hr_2 => ?_)
  subst hr_2
  refine lv_if_eq (tgt := 21) hx hb d_X3_counts_5 (by decide) (fun _ => ?_) (fun c_3 => absurd (by decide +kernel) c_3)
  refine lv_iconst (v := 0) hx hb d_X3_counts_21 (by decide) ?_
  exact hret _ _ _ d_X3_counts_22 (by decide +kernel) (rfl)
set_option maxHeartbeats 4000000 in
set_option maxRecDepth 100000 in
theorem c_X3_placeOf (l : Launch) (D : va_G) (cI cZ cQ : ClassId) (h w y a u : Nat) (rt lw : Int32) : cu_R l D (cu_TY cI cZ cQ) yX3_placeOf cX3_placeOf 4 .int 0 0 [.ref h, .int 0] [(h, .inr (2, [.ref w, .ref y, .ref a, .ref u, .int 0, .int 0, .int rt, .int lw]))] (fun r => r = 0) := by
  refine cu_R.intro (by decide) (Nat.le_of_ble_eq_true rfl) ?_
  intro p e s m args below meth c Q ls S hret hP hK hl
  obtain ⟨hx, hb, hml, hown, hg⟩ := S
  have hown : s.vm.findClass RX3 = some m.cls := hown
  have hl : lv_has ls 4 [(0, .ref h), (1, .int 0)] := hl
  refine lv_iconst (v := 0) hx hb d_X3_placeOf_0 (by decide) ?_
  refine lv_istore_n (lv' := [(2, .int 0), (0, .ref h), (1, .int 0)]) hx hb d_X3_placeOf_1 rfl hl (by decide) rfl (fun ls hl => ?_)
  refine lv_iconst (v := 0) hx hb d_X3_placeOf_2 (by decide) ?_
  refine lv_istore_n (lv' := [(3, .int 0), (2, .int 0), (0, .ref h), (1, .int 0)]) hx hb d_X3_placeOf_3 rfl hl (by decide) rfl (fun ls hl => ?_)
  refine lv_iload_n hx hb d_X3_placeOf_4 rfl (lv_at hl 0 rfl) ?_
  refine lv_aload_n hx hb d_X3_placeOf_5 rfl (lv_at hl 2 rfl) ?_
  refine va_get (D := D) (ci := 2) (v := .int 0) (C := RX3) (T := TX3) (N := 8) hx hb hg cu_iX3 hown hK.1 hP 0 rfl rfl 4 (by decide) (hg _ k_94) (fun _ h9 => h9) rfl d_X3_placeOf_6 ?_
  refine lv_icmp_ge (tgt := 34) hx hb d_X3_placeOf_9 (by decide) (fun _ => ?_) (fun c_1 => absurd (by decide +kernel) c_1)
  refine lv_iload_n hx hb d_X3_placeOf_34 rfl (lv_at hl 1 rfl) ?_
  exact hret _ _ _ d_X3_placeOf_35 (rfl) (rfl)
set_option maxHeartbeats 4000000 in
set_option maxRecDepth 100000 in
theorem c_X3_counted (l : Launch) (D : va_G) (cI cZ cQ : ClassId) (h w y a u : Nat) (rt lw : Int32) : cu_R l D (cu_TY cI cZ cQ) yX3_counted cX3_counted 1 .int 1 23 [.ref h] [(h, .inr (2, [.ref w, .ref y, .ref a, .ref u, .int 0, .int 0, .int rt, .int lw]))] (fun r => r = 0) := by
  refine cu_R.intro (by decide) (Nat.le_of_ble_eq_true rfl) ?_
  intro p e s m args below meth c Q ls S hret hP hK hl
  obtain ⟨hx, hb, hml, hown, hg⟩ := S
  have hown : s.vm.findClass RX3 = some m.cls := hown
  have hl : lv_has ls 1 [(0, .ref h)] := hl
  refine lv_aload_n hx hb d_X3_counted_0 rfl (lv_at hl 0 rfl) ?_
  refine lv_aload_n hx hb d_X3_counted_1 rfl (lv_at hl 0 rfl) ?_
  refine va_get (D := D) (ci := 2) (v := .int 0) (C := RX3) (T := TX3) (N := 8) hx hb hg cu_iX3 hown hK.1 hP 0 rfl rfl 4 (by decide) (hg _ k_94) (fun _ h9 => h9) rfl d_X3_counted_2 ?_
  refine cu_VR (wc := [(h, .inr (2, [.ref w, .ref y, .ref a, .ref u, .int 0, .int 0, .int rt, .int lw]))]) (rest := []) [.int 0] ⟨hx, hb, hml, hown, hg⟩ (c_X3_placeOf l D cI cZ cQ h w y a u rt lw) hd_X3_placeOf k_601 k_598 k_599 k_600 k_45 ⟨Nat.le_of_ble_eq_true rfl, Nat.le_of_ble_eq_true rfl⟩ ⟨Nat.le_of_ble_eq_true rfl, Nat.le_of_ble_eq_true rfl⟩ hP hK [0] rfl 0 rfl rfl rfl hl.1 rfl (Nat.le_of_ble_eq_true rfl) d_X3_counted_5 (fun r_1 hr_2 => ?_)
  subst hr_2
  exact hret _ _ _ d_X3_counted_8 (rfl) (rfl)
set_option maxHeartbeats 4000000 in
set_option maxRecDepth 100000 in
theorem c_X3_setAside (l : Launch) (D : va_G) (cI cZ cQ : ClassId) (h w y a u : Nat) (rt lw : Int32) : cu_R l D (cu_TY cI cZ cQ) yX3_setAside cX3_setAside 3 .int 0 0 [.ref h] [(h, .inr (2, [.ref w, .ref y, .ref a, .ref u, .int 0, .int 0, .int rt, .int lw]))] (fun r => r = 0) := by
  refine cu_R.intro (by decide) (Nat.le_of_ble_eq_true rfl) ?_
  intro p e s m args below meth c Q ls S hret hP hK hl
  obtain ⟨hx, hb, hml, hown, hg⟩ := S
  have hown : s.vm.findClass RX3 = some m.cls := hown
  have hl : lv_has ls 3 [(0, .ref h)] := hl
  refine lv_iconst (v := 0) hx hb d_X3_setAside_0 (by decide) ?_
  refine lv_istore_n (lv' := [(1, .int 0), (0, .ref h)]) hx hb d_X3_setAside_1 rfl hl (by decide) rfl (fun ls hl => ?_)
  refine lv_iconst (v := 0) hx hb d_X3_setAside_2 (by decide) ?_
  refine lv_istore_n (lv' := [(2, .int 0), (1, .int 0), (0, .ref h)]) hx hb d_X3_setAside_3 rfl hl (by decide) rfl (fun ls hl => ?_)
  refine lv_iload_n hx hb d_X3_setAside_4 rfl (lv_at hl 0 rfl) ?_
  refine lv_aload_n hx hb d_X3_setAside_5 rfl (lv_at hl 2 rfl) ?_
  refine va_get (D := D) (ci := 2) (v := .int 0) (C := RX3) (T := TX3) (N := 8) hx hb hg cu_iX3 hown hK.1 hP 0 rfl rfl 4 (by decide) (hg _ k_94) (fun _ h9 => h9) rfl d_X3_setAside_6 ?_
  refine lv_icmp_ge (tgt := 29) hx hb d_X3_setAside_9 (by decide) (fun _ => ?_) (fun c_1 => absurd (by decide +kernel) c_1)
  refine lv_iload_n hx hb d_X3_setAside_29 rfl (lv_at hl 1 rfl) ?_
  exact hret _ _ _ d_X3_setAside_30 (rfl) (rfl)
set_option maxHeartbeats 4000000 in
set_option maxRecDepth 100000 in
theorem c_X3_setOfMint (l : Launch) (D : va_G) (cI cZ cQ : ClassId) (h w y a u : Nat) (rt lw : Int32) (c1 : Int32) : cu_R l D (cu_TY cI cZ cQ) yX3_setOfMint cX3_setOfMint 4 .int 0 0 [.ref h, .int c1] [(h, .inr (2, [.ref w, .ref y, .ref a, .ref u, .int 0, .int 0, .int rt, .int lw]))] (fun r => r = 0) := by
  refine cu_R.intro (by decide) (Nat.le_of_ble_eq_true rfl) ?_
  intro p e s m args below meth c Q ls S hret hP hK hl
  obtain ⟨hx, hb, hml, hown, hg⟩ := S
  have hown : s.vm.findClass RX3 = some m.cls := hown
  have hl : lv_has ls 4 [(0, .ref h), (1, .int c1)] := hl
  refine lv_iconst (v := 0) hx hb d_X3_setOfMint_0 (by decide) ?_
  refine lv_istore_n (lv' := [(2, .int 0), (0, .ref h), (1, .int c1)]) hx hb d_X3_setOfMint_1 rfl hl (by decide) rfl (fun ls hl => ?_)
  refine lv_iconst (v := 0) hx hb d_X3_setOfMint_2 (by decide) ?_
  refine lv_istore_n (lv' := [(3, .int 0), (2, .int 0), (0, .ref h), (1, .int c1)]) hx hb d_X3_setOfMint_3 rfl hl (by decide) rfl (fun ls hl => ?_)
  refine lv_iload_n hx hb d_X3_setOfMint_4 rfl (lv_at hl 0 rfl) ?_
  refine lv_aload_n hx hb d_X3_setOfMint_5 rfl (lv_at hl 2 rfl) ?_
  refine va_get (D := D) (ci := 2) (v := .int 0) (C := RX3) (T := TX3) (N := 8) hx hb hg cu_iX3 hown hK.1 hP 0 rfl rfl 4 (by decide) (hg _ k_94) (fun _ h9 => h9) rfl d_X3_setOfMint_6 ?_
  refine lv_icmp_ge (tgt := 41) hx hb d_X3_setOfMint_9 (by decide) (fun _ => ?_) (fun c_1 => absurd (by decide +kernel) c_1)
  refine lv_iload_n hx hb d_X3_setOfMint_41 rfl (lv_at hl 1 rfl) ?_
  exact hret _ _ _ d_X3_setOfMint_42 (rfl) (rfl)
set_option maxHeartbeats 4000000 in
set_option maxRecDepth 100000 in
theorem c_X3_explainedBy (l : Launch) (D : va_G) (cI cZ cQ : ClassId) (h w y a u : Nat) (rt lw : Int32) (c1 : Int32) : cu_R l D (cu_TY cI cZ cQ) yX3_explainedBy cX3_explainedBy 4 .int 0 0 [.ref h, .int c1] [(h, .inr (2, [.ref w, .ref y, .ref a, .ref u, .int 0, .int 0, .int rt, .int lw]))] (fun r => r = 0) := by
  refine cu_R.intro (by decide) (Nat.le_of_ble_eq_true rfl) ?_
  intro p e s m args below meth c Q ls S hret hP hK hl
  obtain ⟨hx, hb, hml, hown, hg⟩ := S
  have hown : s.vm.findClass RX3 = some m.cls := hown
  have hl : lv_has ls 4 [(0, .ref h), (1, .int c1)] := hl
  refine lv_iconst (v := 0) hx hb d_X3_explainedBy_0 (by decide) ?_
  refine lv_istore_n (lv' := [(2, .int 0), (0, .ref h), (1, .int c1)]) hx hb d_X3_explainedBy_1 rfl hl (by decide) rfl (fun ls hl => ?_)
  refine lv_iconst (v := 0) hx hb d_X3_explainedBy_2 (by decide) ?_
  refine lv_istore_n (lv' := [(3, .int 0), (2, .int 0), (0, .ref h), (1, .int c1)]) hx hb d_X3_explainedBy_3 rfl hl (by decide) rfl (fun ls hl => ?_)
  refine lv_iload_n hx hb d_X3_explainedBy_4 rfl (lv_at hl 0 rfl) ?_
  refine lv_aload_n hx hb d_X3_explainedBy_5 rfl (lv_at hl 2 rfl) ?_
  refine va_get (D := D) (ci := 2) (v := .int 0) (C := RX3) (T := TX3) (N := 8) hx hb hg cu_iX3 hown hK.1 hP 0 rfl rfl 4 (by decide) (hg _ k_94) (fun _ h9 => h9) rfl d_X3_explainedBy_6 ?_
  refine lv_icmp_ge (tgt := 43) hx hb d_X3_explainedBy_9 (by decide) (fun _ => ?_) (fun c_1 => absurd (by decide +kernel) c_1)
  refine lv_iload_n hx hb d_X3_explainedBy_43 rfl (lv_at hl 1 rfl) ?_
  exact hret _ _ _ d_X3_explainedBy_44 (rfl) (rfl)
set_option maxHeartbeats 4000000 in
set_option maxRecDepth 100000 in
theorem c_X3_lossesOf (l : Launch) (D : va_G) (cI cZ cQ : ClassId) (h w y a u : Nat) (rt lw : Int32) (c1 c2 : Int32) : cu_R l D (cu_TY cI cZ cQ) yX3_lossesOf cX3_lossesOf 5 .int 0 0 [.ref h, .int c1, .int c2] [(h, .inr (2, [.ref w, .ref y, .ref a, .ref u, .int 0, .int 0, .int rt, .int lw]))] (fun r => r = 0) := by
  refine cu_R.intro (by decide) (Nat.le_of_ble_eq_true rfl) ?_
  intro p e s m args below meth c Q ls S hret hP hK hl
  obtain ⟨hx, hb, hml, hown, hg⟩ := S
  have hown : s.vm.findClass RX3 = some m.cls := hown
  have hl : lv_has ls 5 [(0, .ref h), (1, .int c1), (2, .int c2)] := hl
  refine lv_iconst (v := 0) hx hb d_X3_lossesOf_0 (by decide) ?_
  refine lv_istore_n (lv' := [(3, .int 0), (0, .ref h), (1, .int c1), (2, .int c2)]) hx hb d_X3_lossesOf_1 rfl hl (by decide) rfl (fun ls hl => ?_)
  refine lv_iconst (v := 0) hx hb d_X3_lossesOf_2 (by decide) ?_
  refine lv_istore (lv' := [(4, .int 0), (3, .int 0), (0, .ref h), (1, .int c1), (2, .int c2)]) hx hb d_X3_lossesOf_3 hl (by decide) rfl (fun ls hl => ?_)
  refine lv_iload hx hb d_X3_lossesOf_5 (lv_at hl 0 rfl) ?_
  refine lv_aload_n hx hb d_X3_lossesOf_7 rfl (lv_at hl 2 rfl) ?_
  refine va_get (D := D) (ci := 2) (v := .int 0) (C := RX3) (T := TX3) (N := 8) hx hb hg cu_iX3 hown hK.1 hP 0 rfl rfl 4 (by decide) (hg _ k_94) (fun _ h9 => h9) rfl d_X3_lossesOf_8 ?_
  refine lv_icmp_ge (tgt := 40) hx hb d_X3_lossesOf_11 (by decide) (fun _ => ?_) (fun c_1 => absurd (by decide +kernel) c_1)
  refine lv_iload_n hx hb d_X3_lossesOf_40 rfl (lv_at hl 1 rfl) ?_
  exact hret _ _ _ d_X3_lossesOf_41 (rfl) (rfl)
set_option maxHeartbeats 4000000 in
set_option maxRecDepth 100000 in
theorem c_X3_lackOf (l : Launch) (D : va_G) (cI cZ cQ : ClassId) (h w y a u : Nat) (rt lw : Int32) (c1 c2 : Int32) : cu_R l D (cu_TY cI cZ cQ) yX3_lackOf cX3_lackOf 5 .int 0 0 [.ref h, .int c1, .int c2] [(h, .inr (2, [.ref w, .ref y, .ref a, .ref u, .int 0, .int 0, .int rt, .int lw]))] (fun r => r = 0) := by
  refine cu_R.intro (by decide) (Nat.le_of_ble_eq_true rfl) ?_
  intro p e s m args below meth c Q ls S hret hP hK hl
  obtain ⟨hx, hb, hml, hown, hg⟩ := S
  have hown : s.vm.findClass RX3 = some m.cls := hown
  have hl : lv_has ls 5 [(0, .ref h), (1, .int c1), (2, .int c2)] := hl
  refine lv_iconst (v := 0) hx hb d_X3_lackOf_0 (by decide) ?_
  refine lv_istore_n (lv' := [(3, .int 0), (0, .ref h), (1, .int c1), (2, .int c2)]) hx hb d_X3_lackOf_1 rfl hl (by decide) rfl (fun ls hl => ?_)
  refine lv_iconst (v := 0) hx hb d_X3_lackOf_2 (by decide) ?_
  refine lv_istore (lv' := [(4, .int 0), (3, .int 0), (0, .ref h), (1, .int c1), (2, .int c2)]) hx hb d_X3_lackOf_3 hl (by decide) rfl (fun ls hl => ?_)
  refine lv_iload hx hb d_X3_lackOf_5 (lv_at hl 0 rfl) ?_
  refine lv_aload_n hx hb d_X3_lackOf_7 rfl (lv_at hl 2 rfl) ?_
  refine va_get (D := D) (ci := 2) (v := .int 0) (C := RX3) (T := TX3) (N := 8) hx hb hg cu_iX3 hown hK.1 hP 0 rfl rfl 4 (by decide) (hg _ k_94) (fun _ h9 => h9) rfl d_X3_lackOf_8 ?_
  refine lv_icmp_ge (tgt := 54) hx hb d_X3_lackOf_11 (by decide) (fun _ => ?_) (fun c_1 => absurd (by decide +kernel) c_1)
  refine lv_iload_n hx hb d_X3_lackOf_54 rfl (lv_at hl 1 rfl) ?_
  exact hret _ _ _ d_X3_lackOf_55 (rfl) (rfl)
set_option maxHeartbeats 4000000 in
set_option maxRecDepth 100000 in
theorem c_X3_recognizes (l : Launch) (D : va_G) (cI cZ cQ : ClassId) (h w y a u : Nat) (rt lw : Int32) (c1 : Int32) : cu_R l D (cu_TY cI cZ cQ) yX3_recognizes cX3_recognizes 6 .boolean 1 21 [.ref h, .int c1] [(h, .inr (2, [.ref w, .ref y, .ref a, .ref u, .int 0, .int 0, .int rt, .int lw]))] (fun r => r = 0) := by
  refine cu_R.intro (by decide) (Nat.le_of_ble_eq_true rfl) ?_
  intro p e s m args below meth c Q ls S hret hP hK hl
  obtain ⟨hx, hb, hml, hown, hg⟩ := S
  have hown : s.vm.findClass RX3 = some m.cls := hown
  have hl : lv_has ls 6 [(0, .ref h), (1, .int c1)] := hl
  refine lv_aload_n hx hb d_X3_recognizes_0 rfl (lv_at hl 0 rfl) ?_
  refine va_get (D := D) (ci := 2) (v := .int 0) (C := RX3) (T := TX3) (N := 8) hx hb hg cu_iX3 hown hK.1 hP 0 rfl rfl 5 (by decide) (hg _ k_97) (fun _ h9 => h9) rfl d_X3_recognizes_1 ?_
  refine lv_iconst (v := 1) hx hb d_X3_recognizes_4 (by decide) ?_
  refine lv_icmp_ge (tgt := 13) hx hb d_X3_recognizes_5 (by decide) (fun c_1 => absurd c_1 (by decide +kernel)) (fun _ => ?_)
  refine lv_bipush (v := (-9)) hx hb d_X3_recognizes_8 (by decide) ?_
  refine lv_goto (tgt := 19) hx hb d_X3_recognizes_10 (by decide) ?_
  refine lv_istore_n (lv' := [(2, .int (-9)), (0, .ref h), (1, .int c1)]) hx hb d_X3_recognizes_19 rfl hl (by decide) rfl (fun ls hl => ?_)
  refine lv_aload_n hx hb d_X3_recognizes_20 rfl (lv_at hl 1 rfl) ?_
  refine lv_iload_n hx hb d_X3_recognizes_21 rfl (lv_at hl 0 rfl) ?_
  refine cu_VR (wc := [(h, .inr (2, [.ref w, .ref y, .ref a, .ref u, .int 0, .int 0, .int rt, .int lw]))]) (rest := []) [.int (-9)] ⟨hx, hb, hml, hown, hg⟩ (c_X3_hasMint l D cI cZ cQ h w y a u rt lw (-9)) hd_X3_hasMint k_321 k_660 k_319 k_320 k_45 ⟨Nat.le_of_ble_eq_true rfl, Nat.le_of_ble_eq_true rfl⟩ ⟨Nat.le_of_ble_eq_true rfl, Nat.le_of_ble_eq_true rfl⟩ hP hK [0] rfl 0 rfl rfl rfl hl.1 rfl (Nat.le_of_ble_eq_true rfl) d_X3_recognizes_22 (fun r_2 hr_3 => ?_)
  subst hr_3
  refine lv_if_ne (tgt := 30) hx hb d_X3_recognizes_25 (by decide) (fun c_4 => absurd (by decide +kernel) c_4) (fun _ => ?_)
  refine lv_iconst (v := 0) hx hb d_X3_recognizes_28 (by decide) ?_
  exact hret _ _ _ d_X3_recognizes_29 (by decide +kernel) (rfl)
end
section
theorem d_X3_init_0 : decode cX3_init 0 = .ok (.aload_n 0, 1) := by decide +kernel
theorem d_X3_init_1 : decode cX3_init 1 = .ok (.invokespecial 3, 3) := by decide +kernel
theorem k_83 : (.methodLink RX3 3 objectInit : Cond) ∈ cu_G := cu_mem 83 (by decide +kernel) (by decide +kernel)
theorem k_61 : (.instanceMethod objectInit : Cond) ∈ cu_G := cu_mem 61 (by decide +kernel) (by decide +kernel)
theorem k_62 : (.code objectInit ⟨#[0xb1]⟩ 1 none : Cond) ∈ cu_G := cu_mem 62 (by decide +kernel) (by decide +kernel)
theorem d_X3_init_4 : decode cX3_init 4 = .ok (.aload_n 0, 1) := by decide +kernel
theorem d_X3_init_5 : decode cX3_init 5 = .ok (.bipush 12, 2) := by decide +kernel
theorem d_X3_init_7 : decode cX3_init 7 = .ok (.newarray .int, 2) := by decide +kernel
theorem k_77 : (.arrayClass .int : Cond) ∈ cu_G := cu_mem 77 (by decide +kernel) (by decide +kernel)
theorem d_X3_init_9 : decode cX3_init 9 = .ok (.putfield 9, 3) := by decide +kernel
theorem k_84 : (.fieldLink RX3 9 "CommonUnits$Hoard" "weights" "[I" : Cond) ∈ cu_G := cu_mem 84 (by decide +kernel) (by decide +kernel)
theorem d_X3_init_12 : decode cX3_init 12 = .ok (.aload_n 0, 1) := by decide +kernel
theorem d_X3_init_13 : decode cX3_init 13 = .ok (.bipush 12, 2) := by decide +kernel
theorem d_X3_init_15 : decode cX3_init 15 = .ok (.newarray .int, 2) := by decide +kernel
theorem d_X3_init_17 : decode cX3_init 17 = .ok (.putfield 15, 3) := by decide +kernel
theorem k_87 : (.fieldLink RX3 15 "CommonUnits$Hoard" "years" "[I" : Cond) ∈ cu_G := cu_mem 87 (by decide +kernel) (by decide +kernel)
theorem d_X3_init_20 : decode cX3_init 20 = .ok (.aload_n 0, 1) := by decide +kernel
theorem d_X3_init_21 : decode cX3_init 21 = .ok (.bipush 12, 2) := by decide +kernel
theorem d_X3_init_23 : decode cX3_init 23 = .ok (.newarray .int, 2) := by decide +kernel
theorem d_X3_init_25 : decode cX3_init 25 = .ok (.putfield 18, 3) := by decide +kernel
theorem k_89 : (.fieldLink RX3 18 "CommonUnits$Hoard" "asides" "[I" : Cond) ∈ cu_G := cu_mem 89 (by decide +kernel) (by decide +kernel)
theorem d_X3_init_28 : decode cX3_init 28 = .ok (.aload_n 0, 1) := by decide +kernel
theorem d_X3_init_29 : decode cX3_init 29 = .ok (.iconst 3, 1) := by decide +kernel
theorem d_X3_init_30 : decode cX3_init 30 = .ok (.newarray .int, 2) := by decide +kernel
theorem d_X3_init_32 : decode cX3_init 32 = .ok (.putfield 21, 3) := by decide +kernel
theorem k_92 : (.fieldLink RX3 21 "CommonUnits$Hoard" "units" "[I" : Cond) ∈ cu_G := cu_mem 92 (by decide +kernel) (by decide +kernel)
theorem d_X3_init_35 : decode cX3_init 35 = .ok (.aload_n 0, 1) := by decide +kernel
theorem d_X3_init_36 : decode cX3_init 36 = .ok (.iconst 1, 1) := by decide +kernel
theorem d_X3_init_37 : decode cX3_init 37 = .ok (.putfield 24, 3) := by decide +kernel
theorem k_100 : (.fieldLink RX3 24 "CommonUnits$Hoard" "rate" "I" : Cond) ∈ cu_G := cu_mem 100 (by decide +kernel) (by decide +kernel)
theorem d_X3_init_40 : decode cX3_init 40 = .ok (.return_, 1) := by decide +kernel
theorem d_X7_init_0 : decode cX7_init 0 = .ok (.aload_n 0, 1) := by decide +kernel
theorem d_X7_init_1 : decode cX7_init 1 = .ok (.invokespecial 3, 3) := by decide +kernel
theorem k_68 : (.methodLink RX7 3 objectInit : Cond) ∈ cu_G := cu_mem 68 (by decide +kernel) (by decide +kernel)
theorem d_X7_init_4 : decode cX7_init 4 = .ok (.aload_n 0, 1) := by decide +kernel
theorem d_X7_init_5 : decode cX7_init 5 = .ok (.sipush 130, 3) := by decide +kernel
theorem d_X7_init_8 : decode cX7_init 8 = .ok (.newarray .int, 2) := by decide +kernel
theorem d_X7_init_10 : decode cX7_init 10 = .ok (.putfield 9, 3) := by decide +kernel
theorem k_69 : (.fieldLink RX7 9 "CommonUnits$Text" "signs" "[I" : Cond) ∈ cu_G := cu_mem 69 (by decide +kernel) (by decide +kernel)
theorem d_X7_init_13 : decode cX7_init 13 = .ok (.return_, 1) := by decide +kernel
theorem d_X0_init_0 : decode cX0_init 0 = .ok (.aload_n 0, 1) := by decide +kernel
theorem d_X0_init_1 : decode cX0_init 1 = .ok (.invokespecial 3, 3) := by decide +kernel
theorem k_126 : (.methodLink RX0 3 objectInit : Cond) ∈ cu_G := cu_mem 126 (by decide +kernel) (by decide +kernel)
theorem d_X0_init_4 : decode cX0_init 4 = .ok (.aload_n 0, 1) := by decide +kernel
theorem d_X0_init_5 : decode cX0_init 5 = .ok (.bipush 14, 2) := by decide +kernel
theorem d_X0_init_7 : decode cX0_init 7 = .ok (.newarray .int, 2) := by decide +kernel
theorem d_X0_init_9 : decode cX0_init 9 = .ok (.putfield 9, 3) := by decide +kernel
theorem k_127 : (.fieldLink RX0 9 "CommonUnits$Acts" "kinds" "[I" : Cond) ∈ cu_G := cu_mem 127 (by decide +kernel) (by decide +kernel)
theorem d_X0_init_12 : decode cX0_init 12 = .ok (.aload_n 0, 1) := by decide +kernel
theorem d_X0_init_13 : decode cX0_init 13 = .ok (.bipush 14, 2) := by decide +kernel
theorem d_X0_init_15 : decode cX0_init 15 = .ok (.newarray .int, 2) := by decide +kernel
theorem d_X0_init_17 : decode cX0_init 17 = .ok (.putfield 15, 3) := by decide +kernel
theorem k_128 : (.fieldLink RX0 15 "CommonUnits$Acts" "indexes" "[I" : Cond) ∈ cu_G := cu_mem 128 (by decide +kernel) (by decide +kernel)
theorem d_X0_init_20 : decode cX0_init 20 = .ok (.aload_n 0, 1) := by decide +kernel
theorem d_X0_init_21 : decode cX0_init 21 = .ok (.bipush 14, 2) := by decide +kernel
theorem d_X0_init_23 : decode cX0_init 23 = .ok (.newarray .int, 2) := by decide +kernel
theorem d_X0_init_25 : decode cX0_init 25 = .ok (.putfield 18, 3) := by decide +kernel
theorem k_129 : (.fieldLink RX0 18 "CommonUnits$Acts" "befores" "[I" : Cond) ∈ cu_G := cu_mem 129 (by decide +kernel) (by decide +kernel)
theorem d_X0_init_28 : decode cX0_init 28 = .ok (.return_, 1) := by decide +kernel
theorem d_X1_init_0 : decode cX1_init 0 = .ok (.aload_n 0, 1) := by decide +kernel
theorem d_X1_init_1 : decode cX1_init 1 = .ok (.invokespecial 3, 3) := by decide +kernel
theorem k_149 : (.methodLink RX1 3 objectInit : Cond) ∈ cu_G := cu_mem 149 (by decide +kernel) (by decide +kernel)
theorem d_X1_init_4 : decode cX1_init 4 = .ok (.aload_n 0, 1) := by decide +kernel
theorem d_X1_init_5 : decode cX1_init 5 = .ok (.sipush 256, 3) := by decide +kernel
theorem d_X1_init_8 : decode cX1_init 8 = .ok (.newarray .int, 2) := by decide +kernel
theorem d_X1_init_10 : decode cX1_init 10 = .ok (.putfield 9, 3) := by decide +kernel
theorem k_150 : (.fieldLink RX1 9 "CommonUnits$Crowd" "values" "[I" : Cond) ∈ cu_G := cu_mem 150 (by decide +kernel) (by decide +kernel)
theorem d_X1_init_13 : decode cX1_init 13 = .ok (.return_, 1) := by decide +kernel
theorem d_X4_init_0 : decode cX4_init 0 = .ok (.aload_n 0, 1) := by decide +kernel
theorem d_X4_init_1 : decode cX4_init 1 = .ok (.invokespecial 3, 3) := by decide +kernel
theorem k_165 : (.methodLink RX4 3 objectInit : Cond) ∈ cu_G := cu_mem 165 (by decide +kernel) (by decide +kernel)
theorem d_X4_init_4 : decode cX4_init 4 = .ok (.aload_n 0, 1) := by decide +kernel
theorem d_X4_init_5 : decode cX4_init 5 = .ok (.bipush 6, 2) := by decide +kernel
theorem d_X4_init_7 : decode cX4_init 7 = .ok (.newarray .int, 2) := by decide +kernel
theorem d_X4_init_9 : decode cX4_init 9 = .ok (.putfield 9, 3) := by decide +kernel
theorem k_166 : (.fieldLink RX4 9 "CommonUnits$Sightings" "coins" "[I" : Cond) ∈ cu_G := cu_mem 166 (by decide +kernel) (by decide +kernel)
theorem d_X4_init_12 : decode cX4_init 12 = .ok (.aload_n 0, 1) := by decide +kernel
theorem d_X4_init_13 : decode cX4_init 13 = .ok (.bipush 6, 2) := by decide +kernel
theorem d_X4_init_15 : decode cX4_init 15 = .ok (.newarray .boolean, 2) := by decide +kernel
theorem k_177 : (.arrayClass .boolean : Cond) ∈ cu_G := cu_mem 177 (by decide +kernel) (by decide +kernel)
theorem d_X4_init_17 : decode cX4_init 17 = .ok (.putfield 15, 3) := by decide +kernel
theorem k_167 : (.fieldLink RX4 15 "CommonUnits$Sightings" "fitting" "[Z" : Cond) ∈ cu_G := cu_mem 167 (by decide +kernel) (by decide +kernel)
theorem d_X4_init_20 : decode cX4_init 20 = .ok (.return_, 1) := by decide +kernel
theorem d_X6_init_0 : decode cX6_init 0 = .ok (.aload_n 0, 1) := by decide +kernel
theorem d_X6_init_1 : decode cX6_init 1 = .ok (.invokespecial 3, 3) := by decide +kernel
theorem k_430 : (.methodLink RX6 3 objectInit : Cond) ∈ cu_G := cu_mem 430 (by decide +kernel) (by decide +kernel)
theorem d_X6_init_4 : decode cX6_init 4 = .ok (.aload_n 0, 1) := by decide +kernel
theorem d_X6_init_5 : decode cX6_init 5 = .ok (.bipush 12, 2) := by decide +kernel
theorem d_X6_init_7 : decode cX6_init 7 = .ok (.newarray .int, 2) := by decide +kernel
theorem d_X6_init_9 : decode cX6_init 9 = .ok (.putfield 9, 3) := by decide +kernel
theorem k_431 : (.fieldLink RX6 9 "CommonUnits$Survey" "weights" "[I" : Cond) ∈ cu_G := cu_mem 431 (by decide +kernel) (by decide +kernel)
theorem d_X6_init_12 : decode cX6_init 12 = .ok (.aload_n 0, 1) := by decide +kernel
theorem d_X6_init_13 : decode cX6_init 13 = .ok (.bipush 12, 2) := by decide +kernel
theorem d_X6_init_15 : decode cX6_init 15 = .ok (.newarray .int, 2) := by decide +kernel
theorem d_X6_init_17 : decode cX6_init 17 = .ok (.putfield 15, 3) := by decide +kernel
theorem k_432 : (.fieldLink RX6 15 "CommonUnits$Survey" "wears" "[I" : Cond) ∈ cu_G := cu_mem 432 (by decide +kernel) (by decide +kernel)
theorem d_X6_init_20 : decode cX6_init 20 = .ok (.aload_n 0, 1) := by decide +kernel
theorem d_X6_init_21 : decode cX6_init 21 = .ok (.sipush 12000, 3) := by decide +kernel
theorem d_X6_init_24 : decode cX6_init 24 = .ok (.newarray .int, 2) := by decide +kernel
theorem d_X6_init_26 : decode cX6_init 26 = .ok (.putfield 18, 3) := by decide +kernel
theorem k_433 : (.fieldLink RX6 18 "CommonUnits$Survey" "lacks" "[I" : Cond) ∈ cu_G := cu_mem 433 (by decide +kernel) (by decide +kernel)
theorem d_X6_init_29 : decode cX6_init 29 = .ok (.aload_n 0, 1) := by decide +kernel
theorem d_X6_init_30 : decode cX6_init 30 = .ok (.sipush 1000, 3) := by decide +kernel
theorem d_X6_init_33 : decode cX6_init 33 = .ok (.newarray .int, 2) := by decide +kernel
theorem d_X6_init_35 : decode cX6_init 35 = .ok (.putfield 21, 3) := by decide +kernel
theorem k_434 : (.fieldLink RX6 21 "CommonUnits$Survey" "sums" "[I" : Cond) ∈ cu_G := cu_mem 434 (by decide +kernel) (by decide +kernel)
theorem d_X6_init_38 : decode cX6_init 38 = .ok (.aload_n 0, 1) := by decide +kernel
theorem d_X6_init_39 : decode cX6_init 39 = .ok (.sipush 999, 3) := by decide +kernel
theorem d_X6_init_42 : decode cX6_init 42 = .ok (.newarray .int, 2) := by decide +kernel
theorem d_X6_init_44 : decode cX6_init 44 = .ok (.putfield 24, 3) := by decide +kernel
theorem k_435 : (.fieldLink RX6 24 "CommonUnits$Survey" "order" "[I" : Cond) ∈ cu_G := cu_mem 435 (by decide +kernel) (by decide +kernel)
theorem d_X6_init_47 : decode cX6_init 47 = .ok (.aload_n 0, 1) := by decide +kernel
theorem d_X6_init_48 : decode cX6_init 48 = .ok (.iconst 1, 1) := by decide +kernel
theorem d_X6_init_49 : decode cX6_init 49 = .ok (.putfield 27, 3) := by decide +kernel
theorem k_436 : (.fieldLink RX6 27 "CommonUnits$Survey" "version" "I" : Cond) ∈ cu_G := cu_mem 436 (by decide +kernel) (by decide +kernel)
theorem d_X6_init_52 : decode cX6_init 52 = .ok (.return_, 1) := by decide +kernel
theorem d_X8_init_0 : decode cX8_init 0 = .ok (.aload_n 0, 1) := by decide +kernel
theorem d_X8_init_1 : decode cX8_init 1 = .ok (.invokespecial 3, 3) := by decide +kernel
theorem k_60 : (.methodLink RX8 3 objectInit : Cond) ∈ cu_G := cu_mem 60 (by decide +kernel) (by decide +kernel)
theorem d_X8_init_4 : decode cX8_init 4 = .ok (.aload_n 0, 1) := by decide +kernel
theorem d_X8_init_5 : decode cX8_init 5 = .ok (.new 9, 3) := by decide +kernel
theorem k_63 : (.classLink RX8 9 RX7 : Cond) ∈ cu_G := cu_mem 63 (by decide +kernel) (by decide +kernel)
theorem k_64 : (.instantiable RX7 2 : Cond) ∈ cu_G := cu_mem 64 (by decide +kernel) (by decide +kernel)
theorem k_44 : (.initialized RX7 : Cond) ∈ cu_G := cu_mem 44 (by decide +kernel) (by decide +kernel)
theorem d_X8_init_8 : decode cX8_init 8 = .ok (.dup, 1) := by decide +kernel
theorem d_X8_init_9 : decode cX8_init 9 = .ok (.invokespecial 11, 3) := by decide +kernel
theorem hd_X7_init : cu_hd yX7_init 0 := by decide +kernel
theorem k_67 : (.code yX7_init cX7_init 1 none : Cond) ∈ cu_G := cu_mem 67 (by decide +kernel) (by decide +kernel)
theorem k_66 : (.instanceMethod yX7_init : Cond) ∈ cu_G := cu_mem 66 (by decide +kernel) (by decide +kernel)
theorem d_X8_init_12 : decode cX8_init 12 = .ok (.putfield 12, 3) := by decide +kernel
theorem k_179 : (.fieldLink RX8 12 "CommonUnits" "text" "LCommonUnits$Text;" : Cond) ∈ cu_G := cu_mem 179 (by decide +kernel) (by decide +kernel)
theorem d_X8_init_15 : decode cX8_init 15 = .ok (.aload_n 0, 1) := by decide +kernel
theorem d_X8_init_16 : decode cX8_init 16 = .ok (.new 16, 3) := by decide +kernel
theorem k_78 : (.classLink RX8 16 RX3 : Cond) ∈ cu_G := cu_mem 78 (by decide +kernel) (by decide +kernel)
theorem k_79 : (.instantiable RX3 8 : Cond) ∈ cu_G := cu_mem 79 (by decide +kernel) (by decide +kernel)
theorem d_X8_init_19 : decode cX8_init 19 = .ok (.dup, 1) := by decide +kernel
theorem d_X8_init_20 : decode cX8_init 20 = .ok (.invokespecial 18, 3) := by decide +kernel
theorem hd_X3_init : cu_hd yX3_init 0 := by decide +kernel
theorem k_82 : (.code yX3_init cX3_init 1 none : Cond) ∈ cu_G := cu_mem 82 (by decide +kernel) (by decide +kernel)
theorem k_81 : (.instanceMethod yX3_init : Cond) ∈ cu_G := cu_mem 81 (by decide +kernel) (by decide +kernel)
theorem d_X8_init_23 : decode cX8_init 23 = .ok (.putfield 19, 3) := by decide +kernel
theorem k_180 : (.fieldLink RX8 19 "CommonUnits" "now" "LCommonUnits$Hoard;" : Cond) ∈ cu_G := cu_mem 180 (by decide +kernel) (by decide +kernel)
theorem d_X8_init_26 : decode cX8_init 26 = .ok (.aload_n 0, 1) := by decide +kernel
theorem d_X8_init_27 : decode cX8_init 27 = .ok (.new 16, 3) := by decide +kernel
theorem d_X8_init_30 : decode cX8_init 30 = .ok (.dup, 1) := by decide +kernel
theorem d_X8_init_31 : decode cX8_init 31 = .ok (.invokespecial 18, 3) := by decide +kernel
theorem d_X8_init_34 : decode cX8_init 34 = .ok (.putfield 23, 3) := by decide +kernel
theorem k_181 : (.fieldLink RX8 23 "CommonUnits" "spare" "LCommonUnits$Hoard;" : Cond) ∈ cu_G := cu_mem 181 (by decide +kernel) (by decide +kernel)
theorem d_X8_init_37 : decode cX8_init 37 = .ok (.aload_n 0, 1) := by decide +kernel
theorem d_X8_init_38 : decode cX8_init 38 = .ok (.new 26, 3) := by decide +kernel
theorem k_121 : (.classLink RX8 26 RX0 : Cond) ∈ cu_G := cu_mem 121 (by decide +kernel) (by decide +kernel)
theorem k_122 : (.instantiable RX0 5 : Cond) ∈ cu_G := cu_mem 122 (by decide +kernel) (by decide +kernel)
theorem k_46 : (.initialized RX0 : Cond) ∈ cu_G := cu_mem 46 (by decide +kernel) (by decide +kernel)
theorem d_X8_init_41 : decode cX8_init 41 = .ok (.dup, 1) := by decide +kernel
theorem d_X8_init_42 : decode cX8_init 42 = .ok (.invokespecial 28, 3) := by decide +kernel
theorem hd_X0_init : cu_hd yX0_init 0 := by decide +kernel
theorem k_125 : (.code yX0_init cX0_init 1 none : Cond) ∈ cu_G := cu_mem 125 (by decide +kernel) (by decide +kernel)
theorem k_124 : (.instanceMethod yX0_init : Cond) ∈ cu_G := cu_mem 124 (by decide +kernel) (by decide +kernel)
theorem d_X8_init_45 : decode cX8_init 45 = .ok (.putfield 29, 3) := by decide +kernel
theorem k_182 : (.fieldLink RX8 29 "CommonUnits" "acts" "LCommonUnits$Acts;" : Cond) ∈ cu_G := cu_mem 182 (by decide +kernel) (by decide +kernel)
theorem d_X8_init_48 : decode cX8_init 48 = .ok (.aload_n 0, 1) := by decide +kernel
theorem d_X8_init_49 : decode cX8_init 49 = .ok (.new 33, 3) := by decide +kernel
theorem k_144 : (.classLink RX8 33 RX1 : Cond) ∈ cu_G := cu_mem 144 (by decide +kernel) (by decide +kernel)
theorem k_145 : (.instantiable RX1 3 : Cond) ∈ cu_G := cu_mem 145 (by decide +kernel) (by decide +kernel)
theorem k_47 : (.initialized RX1 : Cond) ∈ cu_G := cu_mem 47 (by decide +kernel) (by decide +kernel)
theorem d_X8_init_52 : decode cX8_init 52 = .ok (.dup, 1) := by decide +kernel
theorem d_X8_init_53 : decode cX8_init 53 = .ok (.invokespecial 35, 3) := by decide +kernel
theorem hd_X1_init : cu_hd yX1_init 0 := by decide +kernel
theorem k_148 : (.code yX1_init cX1_init 1 none : Cond) ∈ cu_G := cu_mem 148 (by decide +kernel) (by decide +kernel)
theorem k_147 : (.instanceMethod yX1_init : Cond) ∈ cu_G := cu_mem 147 (by decide +kernel) (by decide +kernel)
theorem d_X8_init_56 : decode cX8_init 56 = .ok (.putfield 36, 3) := by decide +kernel
theorem k_183 : (.fieldLink RX8 36 "CommonUnits" "crowd" "LCommonUnits$Crowd;" : Cond) ∈ cu_G := cu_mem 183 (by decide +kernel) (by decide +kernel)
theorem d_X8_init_59 : decode cX8_init 59 = .ok (.aload_n 0, 1) := by decide +kernel
theorem d_X8_init_60 : decode cX8_init 60 = .ok (.new 40, 3) := by decide +kernel
theorem k_160 : (.classLink RX8 40 RX4 : Cond) ∈ cu_G := cu_mem 160 (by decide +kernel) (by decide +kernel)
theorem k_161 : (.instantiable RX4 3 : Cond) ∈ cu_G := cu_mem 161 (by decide +kernel) (by decide +kernel)
theorem k_48 : (.initialized RX4 : Cond) ∈ cu_G := cu_mem 48 (by decide +kernel) (by decide +kernel)
theorem d_X8_init_63 : decode cX8_init 63 = .ok (.dup, 1) := by decide +kernel
theorem d_X8_init_64 : decode cX8_init 64 = .ok (.invokespecial 42, 3) := by decide +kernel
theorem hd_X4_init : cu_hd yX4_init 0 := by decide +kernel
theorem k_164 : (.code yX4_init cX4_init 1 none : Cond) ∈ cu_G := cu_mem 164 (by decide +kernel) (by decide +kernel)
theorem k_163 : (.instanceMethod yX4_init : Cond) ∈ cu_G := cu_mem 163 (by decide +kernel) (by decide +kernel)
theorem d_X8_init_67 : decode cX8_init 67 = .ok (.putfield 43, 3) := by decide +kernel
theorem k_184 : (.fieldLink RX8 43 "CommonUnits" "sightings" "LCommonUnits$Sightings;" : Cond) ∈ cu_G := cu_mem 184 (by decide +kernel) (by decide +kernel)
theorem d_X8_init_70 : decode cX8_init 70 = .ok (.aload_n 0, 1) := by decide +kernel
theorem d_X8_init_71 : decode cX8_init 71 = .ok (.iconst 2, 1) := by decide +kernel
theorem d_X8_init_72 : decode cX8_init 72 = .ok (.anewarray 16, 3) := by decide +kernel
theorem d_X8_init_75 : decode cX8_init 75 = .ok (.putfield 47, 3) := by decide +kernel
theorem k_185 : (.fieldLink RX8 47 "CommonUnits" "slots" "[LCommonUnits$Hoard;" : Cond) ∈ cu_G := cu_mem 185 (by decide +kernel) (by decide +kernel)
theorem d_X8_init_78 : decode cX8_init 78 = .ok (.aload_n 0, 1) := by decide +kernel
theorem d_X8_init_79 : decode cX8_init 79 = .ok (.iconst 2, 1) := by decide +kernel
theorem d_X8_init_80 : decode cX8_init 80 = .ok (.newarray .boolean, 2) := by decide +kernel
theorem d_X8_init_82 : decode cX8_init 82 = .ok (.putfield 51, 3) := by decide +kernel
theorem k_186 : (.fieldLink RX8 51 "CommonUnits" "filled" "[Z" : Cond) ∈ cu_G := cu_mem 186 (by decide +kernel) (by decide +kernel)
theorem d_X8_init_85 : decode cX8_init 85 = .ok (.iconst 0, 1) := by decide +kernel
theorem d_X8_init_86 : decode cX8_init 86 = .ok (.istore_n 1, 1) := by decide +kernel
theorem d_X8_init_87 : decode cX8_init 87 = .ok (.iload_n 1, 1) := by decide +kernel
theorem d_X8_init_88 : decode cX8_init 88 = .ok (.iconst 2, 1) := by decide +kernel
theorem d_X8_init_89 : decode cX8_init 89 = .ok (.if_icmp .ge 22, 3) := by decide +kernel
theorem d_X8_init_92 : decode cX8_init 92 = .ok (.aload_n 0, 1) := by decide +kernel
theorem d_X8_init_93 : decode cX8_init 93 = .ok (.getfield 47, 3) := by decide +kernel
theorem d_X8_init_96 : decode cX8_init 96 = .ok (.iload_n 1, 1) := by decide +kernel
theorem d_X8_init_97 : decode cX8_init 97 = .ok (.new 16, 3) := by decide +kernel
theorem d_X8_init_100 : decode cX8_init 100 = .ok (.dup, 1) := by decide +kernel
theorem d_X8_init_101 : decode cX8_init 101 = .ok (.invokespecial 18, 3) := by decide +kernel
theorem d_X8_init_104 : decode cX8_init 104 = .ok (.aastore, 1) := by decide +kernel
theorem d_X8_init_105 : decode cX8_init 105 = .ok (.iinc 1 1, 3) := by decide +kernel
theorem d_X8_init_108 : decode cX8_init 108 = .ok (.goto (-21), 3) := by decide +kernel
theorem d_X8_init_111 : decode cX8_init 111 = .ok (.return_, 1) := by decide +kernel
set_option maxHeartbeats 4000000 in
set_option maxRecDepth 100000 in
theorem c_X3_init (l : Launch) (D : va_G) (cI cZ cQ : ClassId) (h : Nat) : cu_V l D (cu_TY cI cZ cQ) yX3_init cX3_init 1 1 12 4 39 [.ref h] [(h, .inr (2, [.null, .null, .null, .null, .int 0, .int 0, .int 0, .int 0]))] (fun ww => ∃ w : Nat, ∃ y : Nat, ∃ a : Nat, ∃ u : Nat, ww = [(h, .inr (2, [.ref w, .ref y, .ref a, .ref u, .int 0, .int 0, .int 1, .int 0])), (w, .inl (cI, 12, .inl (fun _ => 0))), (y, .inl (cI, 12, .inl (fun _ => 0))), (a, .inl (cI, 12, .inl (fun _ => 0))), (u, .inl (cI, 3, .inl (fun _ => 0)))]) := by
  refine cu_V.intro (by decide) (Nat.le_of_ble_eq_true rfl) ?_
  intro p e s m args below meth c Q ls A S hin hret hP hD hS hA hK hl
  obtain ⟨hx, hb, hml, hown, hg⟩ := S
  have hown : s.vm.findClass RX3 = some m.cls := hown
  have hin : meth.name = "<init>" := hin
  have hl : lv_has ls 1 [(0, .ref h)] := hl
  refine lv_aload_n hx hb d_X3_init_0 rfl (lv_at hl 0 rfl) ?_
  refine W.objInit hx hb hown (hg _ k_83) (hg _ k_61) (hg _ k_62) rfl (by rw [hml]; exact hl.1) rfl d_X3_init_1 (Nat.le_of_ble_eq_true rfl) (Nat.le_of_ble_eq_true rfl) ?_
  refine W.eq (g2 := F0 m 4 ls []) rfl ?_
  refine lv_aload_n hx hb d_X3_init_4 rfl (lv_at hl 0 rfl) ?_
  refine lv_bipush (v := 12) hx hb d_X3_init_5 (by decide) ?_
  refine cu_newI 12 hx hb (hg _ k_77) hK hP hD hS hA (by decide) (by decide +kernel) (Nat.le_of_ble_eq_true rfl) (Nat.le_of_ble_eq_true rfl) (Nat.le_of_ble_eq_true rfl) d_X3_init_7 (fun q_1 H hP hD hS => ?_)
  have hP : va_P D vwCl [(h, .inr (2, [.null, .null, .null, .null, .int 0, .int 0, .int 0, .int 0])), (q_1, .inl (cI, 12, .inl (fun _ => 0)))] H := hP
  have hD : va_D A [(h, .inr (2, [.null, .null, .null, .null, .int 0, .int 0, .int 0, .int 0])), (q_1, .inl (cI, 12, .inl (fun _ => 0)))] := hD
  refine W.widen (k := 1) (n := 12) (Nat.le_of_ble_eq_true rfl) (Nat.le_of_ble_eq_true rfl) ?_
  refine va_putF (D := D) (ci := 2) (v := .ref q_1) (ty := .array .int) (C := RX3) (T := TX3) (N := 8) hx hb hg cu_iX3 tyX3 tyX3_ok nmX3 hown hK.1 hP hD hS 0 rfl rfl 0 (by decide) (hg _ k_84) (fun _ h9 => h9) rfl hin rfl (by decide +kernel) rfl rfl (Nat.le_of_ble_eq_true rfl) d_X3_init_9 (fun H locs hP hD hS => ?_)
  have hP : va_P D vwCl [(h, .inr (2, [.ref q_1, .null, .null, .null, .int 0, .int 0, .int 0, .int 0])), (q_1, .inl (cI, 12, .inl (fun _ => 0)))] H := hP
  have hD : va_D A [(h, .inr (2, [.ref q_1, .null, .null, .null, .int 0, .int 0, .int 0, .int 0])), (q_1, .inl (cI, 12, .inl (fun _ => 0)))] := hD
  refine lv_aload_n hx hb d_X3_init_12 rfl (lv_at hl 0 rfl) ?_
  refine lv_bipush (v := 12) hx hb d_X3_init_13 (by decide) ?_
  refine cu_newI 12 hx hb (hg _ k_77) hK hP hD hS hA (by decide) (by decide +kernel) (Nat.le_of_ble_eq_true rfl) (Nat.le_of_ble_eq_true rfl) (Nat.le_of_ble_eq_true rfl) d_X3_init_15 (fun q_2 H hP hD hS => ?_)
  have hP : va_P D vwCl [(h, .inr (2, [.ref q_1, .null, .null, .null, .int 0, .int 0, .int 0, .int 0])), (q_1, .inl (cI, 12, .inl (fun _ => 0))), (q_2, .inl (cI, 12, .inl (fun _ => 0)))] H := hP
  have hD : va_D A [(h, .inr (2, [.ref q_1, .null, .null, .null, .int 0, .int 0, .int 0, .int 0])), (q_1, .inl (cI, 12, .inl (fun _ => 0))), (q_2, .inl (cI, 12, .inl (fun _ => 0)))] := hD
  refine W.widen (k := 2) (n := 24) (Nat.le_of_ble_eq_true rfl) (Nat.le_of_ble_eq_true rfl) ?_
  refine va_putF (D := D) (ci := 2) (v := .ref q_2) (ty := .array .int) (C := RX3) (T := TX3) (N := 8) hx hb hg cu_iX3 tyX3 tyX3_ok nmX3 hown hK.1 hP hD hS 0 rfl rfl 1 (by decide) (hg _ k_87) (fun _ h9 => h9) rfl hin rfl (by decide +kernel) rfl rfl (Nat.le_of_ble_eq_true rfl) d_X3_init_17 (fun H locs hP hD hS => ?_)
  have hP : va_P D vwCl [(h, .inr (2, [.ref q_1, .ref q_2, .null, .null, .int 0, .int 0, .int 0, .int 0])), (q_1, .inl (cI, 12, .inl (fun _ => 0))), (q_2, .inl (cI, 12, .inl (fun _ => 0)))] H := hP
  have hD : va_D A [(h, .inr (2, [.ref q_1, .ref q_2, .null, .null, .int 0, .int 0, .int 0, .int 0])), (q_1, .inl (cI, 12, .inl (fun _ => 0))), (q_2, .inl (cI, 12, .inl (fun _ => 0)))] := hD
  refine lv_aload_n hx hb d_X3_init_20 rfl (lv_at hl 0 rfl) ?_
  refine lv_bipush (v := 12) hx hb d_X3_init_21 (by decide) ?_
  refine cu_newI 12 hx hb (hg _ k_77) hK hP hD hS hA (by decide) (by decide +kernel) (Nat.le_of_ble_eq_true rfl) (Nat.le_of_ble_eq_true rfl) (Nat.le_of_ble_eq_true rfl) d_X3_init_23 (fun q_3 H hP hD hS => ?_)
  have hP : va_P D vwCl [(h, .inr (2, [.ref q_1, .ref q_2, .null, .null, .int 0, .int 0, .int 0, .int 0])), (q_1, .inl (cI, 12, .inl (fun _ => 0))), (q_2, .inl (cI, 12, .inl (fun _ => 0))), (q_3, .inl (cI, 12, .inl (fun _ => 0)))] H := hP
  have hD : va_D A [(h, .inr (2, [.ref q_1, .ref q_2, .null, .null, .int 0, .int 0, .int 0, .int 0])), (q_1, .inl (cI, 12, .inl (fun _ => 0))), (q_2, .inl (cI, 12, .inl (fun _ => 0))), (q_3, .inl (cI, 12, .inl (fun _ => 0)))] := hD
  refine W.widen (k := 3) (n := 36) (Nat.le_of_ble_eq_true rfl) (Nat.le_of_ble_eq_true rfl) ?_
  refine va_putF (D := D) (ci := 2) (v := .ref q_3) (ty := .array .int) (C := RX3) (T := TX3) (N := 8) hx hb hg cu_iX3 tyX3 tyX3_ok nmX3 hown hK.1 hP hD hS 0 rfl rfl 2 (by decide) (hg _ k_89) (fun _ h9 => h9) rfl hin rfl (by decide +kernel) rfl rfl (Nat.le_of_ble_eq_true rfl) d_X3_init_25 (fun H locs hP hD hS => ?_)
  have hP : va_P D vwCl [(h, .inr (2, [.ref q_1, .ref q_2, .ref q_3, .null, .int 0, .int 0, .int 0, .int 0])), (q_1, .inl (cI, 12, .inl (fun _ => 0))), (q_2, .inl (cI, 12, .inl (fun _ => 0))), (q_3, .inl (cI, 12, .inl (fun _ => 0)))] H := hP
  have hD : va_D A [(h, .inr (2, [.ref q_1, .ref q_2, .ref q_3, .null, .int 0, .int 0, .int 0, .int 0])), (q_1, .inl (cI, 12, .inl (fun _ => 0))), (q_2, .inl (cI, 12, .inl (fun _ => 0))), (q_3, .inl (cI, 12, .inl (fun _ => 0)))] := hD
  refine lv_aload_n hx hb d_X3_init_28 rfl (lv_at hl 0 rfl) ?_
  refine lv_iconst (v := 3) hx hb d_X3_init_29 (by decide) ?_
  refine cu_newI 3 hx hb (hg _ k_77) hK hP hD hS hA (by decide) (by decide +kernel) (Nat.le_of_ble_eq_true rfl) (Nat.le_of_ble_eq_true rfl) (Nat.le_of_ble_eq_true rfl) d_X3_init_30 (fun q_4 H hP hD hS => ?_)
  have hP : va_P D vwCl [(h, .inr (2, [.ref q_1, .ref q_2, .ref q_3, .null, .int 0, .int 0, .int 0, .int 0])), (q_1, .inl (cI, 12, .inl (fun _ => 0))), (q_2, .inl (cI, 12, .inl (fun _ => 0))), (q_3, .inl (cI, 12, .inl (fun _ => 0))), (q_4, .inl (cI, 3, .inl (fun _ => 0)))] H := hP
  have hD : va_D A [(h, .inr (2, [.ref q_1, .ref q_2, .ref q_3, .null, .int 0, .int 0, .int 0, .int 0])), (q_1, .inl (cI, 12, .inl (fun _ => 0))), (q_2, .inl (cI, 12, .inl (fun _ => 0))), (q_3, .inl (cI, 12, .inl (fun _ => 0))), (q_4, .inl (cI, 3, .inl (fun _ => 0)))] := hD
  refine W.widen (k := 4) (n := 39) (Nat.le_of_ble_eq_true rfl) (Nat.le_of_ble_eq_true rfl) ?_
  refine va_putF (D := D) (ci := 2) (v := .ref q_4) (ty := .array .int) (C := RX3) (T := TX3) (N := 8) hx hb hg cu_iX3 tyX3 tyX3_ok nmX3 hown hK.1 hP hD hS 0 rfl rfl 3 (by decide) (hg _ k_92) (fun _ h9 => h9) rfl hin rfl (by decide +kernel) rfl rfl (Nat.le_of_ble_eq_true rfl) d_X3_init_32 (fun H locs hP hD hS => ?_)
  have hP : va_P D vwCl [(h, .inr (2, [.ref q_1, .ref q_2, .ref q_3, .ref q_4, .int 0, .int 0, .int 0, .int 0])), (q_1, .inl (cI, 12, .inl (fun _ => 0))), (q_2, .inl (cI, 12, .inl (fun _ => 0))), (q_3, .inl (cI, 12, .inl (fun _ => 0))), (q_4, .inl (cI, 3, .inl (fun _ => 0)))] H := hP
  have hD : va_D A [(h, .inr (2, [.ref q_1, .ref q_2, .ref q_3, .ref q_4, .int 0, .int 0, .int 0, .int 0])), (q_1, .inl (cI, 12, .inl (fun _ => 0))), (q_2, .inl (cI, 12, .inl (fun _ => 0))), (q_3, .inl (cI, 12, .inl (fun _ => 0))), (q_4, .inl (cI, 3, .inl (fun _ => 0)))] := hD
  refine lv_aload_n hx hb d_X3_init_35 rfl (lv_at hl 0 rfl) ?_
  refine lv_iconst (v := 1) hx hb d_X3_init_36 (by decide) ?_
  refine va_put (D := D) (ci := 2) (v := .int 1) (ty := .int) (C := RX3) (T := TX3) (N := 8) hx hb hg cu_iX3 tyX3 tyX3_ok nmX3 hown hK.1 hP hD hS 0 rfl rfl 6 (by decide) (hg _ k_100) (fun _ h9 => h9) rfl (by decide +kernel) rfl rfl (Nat.le_of_ble_eq_true rfl) d_X3_init_37 (fun H locs hP hD hS => ?_)
  have hP : va_P D vwCl [(h, .inr (2, [.ref q_1, .ref q_2, .ref q_3, .ref q_4, .int 0, .int 0, .int 1, .int 0])), (q_1, .inl (cI, 12, .inl (fun _ => 0))), (q_2, .inl (cI, 12, .inl (fun _ => 0))), (q_3, .inl (cI, 12, .inl (fun _ => 0))), (q_4, .inl (cI, 3, .inl (fun _ => 0)))] H := hP
  have hD : va_D A [(h, .inr (2, [.ref q_1, .ref q_2, .ref q_3, .ref q_4, .int 0, .int 0, .int 1, .int 0])), (q_1, .inl (cI, 12, .inl (fun _ => 0))), (q_2, .inl (cI, 12, .inl (fun _ => 0))), (q_3, .inl (cI, 12, .inl (fun _ => 0))), (q_4, .inl (cI, 3, .inl (fun _ => 0)))] := hD
  exact hret _ _ _ _ [(h, .inr (2, [.ref q_1, .ref q_2, .ref q_3, .ref q_4, .int 0, .int 0, .int 1, .int 0])), (q_1, .inl (cI, 12, .inl (fun _ => 0))), (q_2, .inl (cI, 12, .inl (fun _ => 0))), (q_3, .inl (cI, 12, .inl (fun _ => 0))), (q_4, .inl (cI, 3, .inl (fun _ => 0)))] _ _ (hP.sub (ws' := [(h, .inr (2, [.ref q_1, .ref q_2, .ref q_3, .ref q_4, .int 0, .int 0, .int 1, .int 0])), (q_1, .inl (cI, 12, .inl (fun _ => 0))), (q_2, .inl (cI, 12, .inl (fun _ => 0))), (q_3, .inl (cI, 12, .inl (fun _ => 0))), (q_4, .inl (cI, 3, .inl (fun _ => 0)))]) [0, 1, 2, 3, 4] rfl) (hD.sub (ws' := [(h, .inr (2, [.ref q_1, .ref q_2, .ref q_3, .ref q_4, .int 0, .int 0, .int 1, .int 0])), (q_1, .inl (cI, 12, .inl (fun _ => 0))), (q_2, .inl (cI, 12, .inl (fun _ => 0))), (q_3, .inl (cI, 12, .inl (fun _ => 0))), (q_4, .inl (cI, 3, .inl (fun _ => 0)))]) [0, 1, 2, 3, 4] (by decide) rfl) hS (Nat.le_of_ble_eq_true rfl) (Nat.le_of_ble_eq_true rfl) d_X3_init_40 ⟨q_1, q_2, q_3, q_4, rfl⟩
set_option maxHeartbeats 4000000 in
set_option maxRecDepth 100000 in
theorem c_X7_init (l : Launch) (D : va_G) (cI cZ cQ : ClassId) (h : Nat) : cu_V l D (cu_TY cI cZ cQ) yX7_init cX7_init 1 1 12 1 130 [.ref h] [(h, .inr (5, [.null, .int 0]))] (fun ww => ∃ w : Nat, ww = [(h, .inr (5, [.ref w, .int 0])), (w, .inl (cI, 130, .inl (fun _ => 0)))]) := by
  refine cu_V.intro (by decide) (Nat.le_of_ble_eq_true rfl) ?_
  intro p e s m args below meth c Q ls A S hin hret hP hD hS hA hK hl
  obtain ⟨hx, hb, hml, hown, hg⟩ := S
  have hown : s.vm.findClass RX7 = some m.cls := hown
  have hin : meth.name = "<init>" := hin
  have hl : lv_has ls 1 [(0, .ref h)] := hl
  refine lv_aload_n hx hb d_X7_init_0 rfl (lv_at hl 0 rfl) ?_
  refine W.objInit hx hb hown (hg _ k_68) (hg _ k_61) (hg _ k_62) rfl (by rw [hml]; exact hl.1) rfl d_X7_init_1 (Nat.le_of_ble_eq_true rfl) (Nat.le_of_ble_eq_true rfl) ?_
  refine W.eq (g2 := F0 m 4 ls []) rfl ?_
  refine lv_aload_n hx hb d_X7_init_4 rfl (lv_at hl 0 rfl) ?_
  refine lv_sipush (v := 130) hx hb d_X7_init_5 (by decide) ?_
  refine cu_newI 130 hx hb (hg _ k_77) hK hP hD hS hA (by decide) (by decide +kernel) (Nat.le_of_ble_eq_true rfl) (Nat.le_of_ble_eq_true rfl) (Nat.le_of_ble_eq_true rfl) d_X7_init_8 (fun q_1 H hP hD hS => ?_)
  have hP : va_P D vwCl [(h, .inr (5, [.null, .int 0])), (q_1, .inl (cI, 130, .inl (fun _ => 0)))] H := hP
  have hD : va_D A [(h, .inr (5, [.null, .int 0])), (q_1, .inl (cI, 130, .inl (fun _ => 0)))] := hD
  refine W.widen (k := 1) (n := 130) (Nat.le_of_ble_eq_true rfl) (Nat.le_of_ble_eq_true rfl) ?_
  refine va_putF (D := D) (ci := 5) (v := .ref q_1) (ty := .array .int) (C := RX7) (T := TX7) (N := 2) hx hb hg cu_iX7 tyX7 tyX7_ok nmX7 hown hK.1 hP hD hS 0 rfl rfl 0 (by decide) (hg _ k_69) (fun _ h9 => h9) rfl hin rfl (by decide +kernel) rfl rfl (Nat.le_of_ble_eq_true rfl) d_X7_init_10 (fun H locs hP hD hS => ?_)
  have hP : va_P D vwCl [(h, .inr (5, [.ref q_1, .int 0])), (q_1, .inl (cI, 130, .inl (fun _ => 0)))] H := hP
  have hD : va_D A [(h, .inr (5, [.ref q_1, .int 0])), (q_1, .inl (cI, 130, .inl (fun _ => 0)))] := hD
  exact hret _ _ _ _ [(h, .inr (5, [.ref q_1, .int 0])), (q_1, .inl (cI, 130, .inl (fun _ => 0)))] _ _ (hP.sub (ws' := [(h, .inr (5, [.ref q_1, .int 0])), (q_1, .inl (cI, 130, .inl (fun _ => 0)))]) [0, 1] rfl) (hD.sub (ws' := [(h, .inr (5, [.ref q_1, .int 0])), (q_1, .inl (cI, 130, .inl (fun _ => 0)))]) [0, 1] (by decide) rfl) hS (Nat.le_of_ble_eq_true rfl) (Nat.le_of_ble_eq_true rfl) d_X7_init_13 ⟨q_1, rfl⟩
set_option maxHeartbeats 4000000 in
set_option maxRecDepth 100000 in
theorem c_X0_init (l : Launch) (D : va_G) (cI cZ cQ : ClassId) (h : Nat) : cu_V l D (cu_TY cI cZ cQ) yX0_init cX0_init 1 1 12 3 42 [.ref h] [(h, .inr (0, [.null, .null, .null, .int 0, .int 0]))] (fun ww => ∃ w : Nat, ∃ y : Nat, ∃ a : Nat, ww = [(h, .inr (0, [.ref w, .ref y, .ref a, .int 0, .int 0])), (w, .inl (cI, 14, .inl (fun _ => 0))), (y, .inl (cI, 14, .inl (fun _ => 0))), (a, .inl (cI, 14, .inl (fun _ => 0)))]) := by
  refine cu_V.intro (by decide) (Nat.le_of_ble_eq_true rfl) ?_
  intro p e s m args below meth c Q ls A S hin hret hP hD hS hA hK hl
  obtain ⟨hx, hb, hml, hown, hg⟩ := S
  have hown : s.vm.findClass RX0 = some m.cls := hown
  have hin : meth.name = "<init>" := hin
  have hl : lv_has ls 1 [(0, .ref h)] := hl
  refine lv_aload_n hx hb d_X0_init_0 rfl (lv_at hl 0 rfl) ?_
  refine W.objInit hx hb hown (hg _ k_126) (hg _ k_61) (hg _ k_62) rfl (by rw [hml]; exact hl.1) rfl d_X0_init_1 (Nat.le_of_ble_eq_true rfl) (Nat.le_of_ble_eq_true rfl) ?_
  refine W.eq (g2 := F0 m 4 ls []) rfl ?_
  refine lv_aload_n hx hb d_X0_init_4 rfl (lv_at hl 0 rfl) ?_
  refine lv_bipush (v := 14) hx hb d_X0_init_5 (by decide) ?_
  refine cu_newI 14 hx hb (hg _ k_77) hK hP hD hS hA (by decide) (by decide +kernel) (Nat.le_of_ble_eq_true rfl) (Nat.le_of_ble_eq_true rfl) (Nat.le_of_ble_eq_true rfl) d_X0_init_7 (fun q_1 H hP hD hS => ?_)
  have hP : va_P D vwCl [(h, .inr (0, [.null, .null, .null, .int 0, .int 0])), (q_1, .inl (cI, 14, .inl (fun _ => 0)))] H := hP
  have hD : va_D A [(h, .inr (0, [.null, .null, .null, .int 0, .int 0])), (q_1, .inl (cI, 14, .inl (fun _ => 0)))] := hD
  refine W.widen (k := 1) (n := 14) (Nat.le_of_ble_eq_true rfl) (Nat.le_of_ble_eq_true rfl) ?_
  refine va_putF (D := D) (ci := 0) (v := .ref q_1) (ty := .array .int) (C := RX0) (T := TX0) (N := 5) hx hb hg cu_iX0 tyX0 tyX0_ok nmX0 hown hK.1 hP hD hS 0 rfl rfl 0 (by decide) (hg _ k_127) (fun _ h9 => h9) rfl hin rfl (by decide +kernel) rfl rfl (Nat.le_of_ble_eq_true rfl) d_X0_init_9 (fun H locs hP hD hS => ?_)
  have hP : va_P D vwCl [(h, .inr (0, [.ref q_1, .null, .null, .int 0, .int 0])), (q_1, .inl (cI, 14, .inl (fun _ => 0)))] H := hP
  have hD : va_D A [(h, .inr (0, [.ref q_1, .null, .null, .int 0, .int 0])), (q_1, .inl (cI, 14, .inl (fun _ => 0)))] := hD
  refine lv_aload_n hx hb d_X0_init_12 rfl (lv_at hl 0 rfl) ?_
  refine lv_bipush (v := 14) hx hb d_X0_init_13 (by decide) ?_
  refine cu_newI 14 hx hb (hg _ k_77) hK hP hD hS hA (by decide) (by decide +kernel) (Nat.le_of_ble_eq_true rfl) (Nat.le_of_ble_eq_true rfl) (Nat.le_of_ble_eq_true rfl) d_X0_init_15 (fun q_2 H hP hD hS => ?_)
  have hP : va_P D vwCl [(h, .inr (0, [.ref q_1, .null, .null, .int 0, .int 0])), (q_1, .inl (cI, 14, .inl (fun _ => 0))), (q_2, .inl (cI, 14, .inl (fun _ => 0)))] H := hP
  have hD : va_D A [(h, .inr (0, [.ref q_1, .null, .null, .int 0, .int 0])), (q_1, .inl (cI, 14, .inl (fun _ => 0))), (q_2, .inl (cI, 14, .inl (fun _ => 0)))] := hD
  refine W.widen (k := 2) (n := 28) (Nat.le_of_ble_eq_true rfl) (Nat.le_of_ble_eq_true rfl) ?_
  refine va_putF (D := D) (ci := 0) (v := .ref q_2) (ty := .array .int) (C := RX0) (T := TX0) (N := 5) hx hb hg cu_iX0 tyX0 tyX0_ok nmX0 hown hK.1 hP hD hS 0 rfl rfl 1 (by decide) (hg _ k_128) (fun _ h9 => h9) rfl hin rfl (by decide +kernel) rfl rfl (Nat.le_of_ble_eq_true rfl) d_X0_init_17 (fun H locs hP hD hS => ?_)
  have hP : va_P D vwCl [(h, .inr (0, [.ref q_1, .ref q_2, .null, .int 0, .int 0])), (q_1, .inl (cI, 14, .inl (fun _ => 0))), (q_2, .inl (cI, 14, .inl (fun _ => 0)))] H := hP
  have hD : va_D A [(h, .inr (0, [.ref q_1, .ref q_2, .null, .int 0, .int 0])), (q_1, .inl (cI, 14, .inl (fun _ => 0))), (q_2, .inl (cI, 14, .inl (fun _ => 0)))] := hD
  refine lv_aload_n hx hb d_X0_init_20 rfl (lv_at hl 0 rfl) ?_
  refine lv_bipush (v := 14) hx hb d_X0_init_21 (by decide) ?_
  refine cu_newI 14 hx hb (hg _ k_77) hK hP hD hS hA (by decide) (by decide +kernel) (Nat.le_of_ble_eq_true rfl) (Nat.le_of_ble_eq_true rfl) (Nat.le_of_ble_eq_true rfl) d_X0_init_23 (fun q_3 H hP hD hS => ?_)
  have hP : va_P D vwCl [(h, .inr (0, [.ref q_1, .ref q_2, .null, .int 0, .int 0])), (q_1, .inl (cI, 14, .inl (fun _ => 0))), (q_2, .inl (cI, 14, .inl (fun _ => 0))), (q_3, .inl (cI, 14, .inl (fun _ => 0)))] H := hP
  have hD : va_D A [(h, .inr (0, [.ref q_1, .ref q_2, .null, .int 0, .int 0])), (q_1, .inl (cI, 14, .inl (fun _ => 0))), (q_2, .inl (cI, 14, .inl (fun _ => 0))), (q_3, .inl (cI, 14, .inl (fun _ => 0)))] := hD
  refine W.widen (k := 3) (n := 42) (Nat.le_of_ble_eq_true rfl) (Nat.le_of_ble_eq_true rfl) ?_
  refine va_putF (D := D) (ci := 0) (v := .ref q_3) (ty := .array .int) (C := RX0) (T := TX0) (N := 5) hx hb hg cu_iX0 tyX0 tyX0_ok nmX0 hown hK.1 hP hD hS 0 rfl rfl 2 (by decide) (hg _ k_129) (fun _ h9 => h9) rfl hin rfl (by decide +kernel) rfl rfl (Nat.le_of_ble_eq_true rfl) d_X0_init_25 (fun H locs hP hD hS => ?_)
  have hP : va_P D vwCl [(h, .inr (0, [.ref q_1, .ref q_2, .ref q_3, .int 0, .int 0])), (q_1, .inl (cI, 14, .inl (fun _ => 0))), (q_2, .inl (cI, 14, .inl (fun _ => 0))), (q_3, .inl (cI, 14, .inl (fun _ => 0)))] H := hP
  have hD : va_D A [(h, .inr (0, [.ref q_1, .ref q_2, .ref q_3, .int 0, .int 0])), (q_1, .inl (cI, 14, .inl (fun _ => 0))), (q_2, .inl (cI, 14, .inl (fun _ => 0))), (q_3, .inl (cI, 14, .inl (fun _ => 0)))] := hD
  exact hret _ _ _ _ [(h, .inr (0, [.ref q_1, .ref q_2, .ref q_3, .int 0, .int 0])), (q_1, .inl (cI, 14, .inl (fun _ => 0))), (q_2, .inl (cI, 14, .inl (fun _ => 0))), (q_3, .inl (cI, 14, .inl (fun _ => 0)))] _ _ (hP.sub (ws' := [(h, .inr (0, [.ref q_1, .ref q_2, .ref q_3, .int 0, .int 0])), (q_1, .inl (cI, 14, .inl (fun _ => 0))), (q_2, .inl (cI, 14, .inl (fun _ => 0))), (q_3, .inl (cI, 14, .inl (fun _ => 0)))]) [0, 1, 2, 3] rfl) (hD.sub (ws' := [(h, .inr (0, [.ref q_1, .ref q_2, .ref q_3, .int 0, .int 0])), (q_1, .inl (cI, 14, .inl (fun _ => 0))), (q_2, .inl (cI, 14, .inl (fun _ => 0))), (q_3, .inl (cI, 14, .inl (fun _ => 0)))]) [0, 1, 2, 3] (by decide) rfl) hS (Nat.le_of_ble_eq_true rfl) (Nat.le_of_ble_eq_true rfl) d_X0_init_28 ⟨q_1, q_2, q_3, rfl⟩
set_option maxHeartbeats 4000000 in
set_option maxRecDepth 100000 in
theorem c_X1_init (l : Launch) (D : va_G) (cI cZ cQ : ClassId) (h : Nat) : cu_V l D (cu_TY cI cZ cQ) yX1_init cX1_init 1 1 12 1 256 [.ref h] [(h, .inr (1, [.null, .int 0, .int 0]))] (fun ww => ∃ w : Nat, ww = [(h, .inr (1, [.ref w, .int 0, .int 0])), (w, .inl (cI, 256, .inl (fun _ => 0)))]) := by
  refine cu_V.intro (by decide) (Nat.le_of_ble_eq_true rfl) ?_
  intro p e s m args below meth c Q ls A S hin hret hP hD hS hA hK hl
  obtain ⟨hx, hb, hml, hown, hg⟩ := S
  have hown : s.vm.findClass RX1 = some m.cls := hown
  have hin : meth.name = "<init>" := hin
  have hl : lv_has ls 1 [(0, .ref h)] := hl
  refine lv_aload_n hx hb d_X1_init_0 rfl (lv_at hl 0 rfl) ?_
  refine W.objInit hx hb hown (hg _ k_149) (hg _ k_61) (hg _ k_62) rfl (by rw [hml]; exact hl.1) rfl d_X1_init_1 (Nat.le_of_ble_eq_true rfl) (Nat.le_of_ble_eq_true rfl) ?_
  refine W.eq (g2 := F0 m 4 ls []) rfl ?_
  refine lv_aload_n hx hb d_X1_init_4 rfl (lv_at hl 0 rfl) ?_
  refine lv_sipush (v := 256) hx hb d_X1_init_5 (by decide) ?_
  refine cu_newI 256 hx hb (hg _ k_77) hK hP hD hS hA (by decide) (by decide +kernel) (Nat.le_of_ble_eq_true rfl) (Nat.le_of_ble_eq_true rfl) (Nat.le_of_ble_eq_true rfl) d_X1_init_8 (fun q_1 H hP hD hS => ?_)
  have hP : va_P D vwCl [(h, .inr (1, [.null, .int 0, .int 0])), (q_1, .inl (cI, 256, .inl (fun _ => 0)))] H := hP
  have hD : va_D A [(h, .inr (1, [.null, .int 0, .int 0])), (q_1, .inl (cI, 256, .inl (fun _ => 0)))] := hD
  refine W.widen (k := 1) (n := 256) (Nat.le_of_ble_eq_true rfl) (Nat.le_of_ble_eq_true rfl) ?_
  refine va_putF (D := D) (ci := 1) (v := .ref q_1) (ty := .array .int) (C := RX1) (T := TX1) (N := 3) hx hb hg cu_iX1 tyX1 tyX1_ok nmX1 hown hK.1 hP hD hS 0 rfl rfl 0 (by decide) (hg _ k_150) (fun _ h9 => h9) rfl hin rfl (by decide +kernel) rfl rfl (Nat.le_of_ble_eq_true rfl) d_X1_init_10 (fun H locs hP hD hS => ?_)
  have hP : va_P D vwCl [(h, .inr (1, [.ref q_1, .int 0, .int 0])), (q_1, .inl (cI, 256, .inl (fun _ => 0)))] H := hP
  have hD : va_D A [(h, .inr (1, [.ref q_1, .int 0, .int 0])), (q_1, .inl (cI, 256, .inl (fun _ => 0)))] := hD
  exact hret _ _ _ _ [(h, .inr (1, [.ref q_1, .int 0, .int 0])), (q_1, .inl (cI, 256, .inl (fun _ => 0)))] _ _ (hP.sub (ws' := [(h, .inr (1, [.ref q_1, .int 0, .int 0])), (q_1, .inl (cI, 256, .inl (fun _ => 0)))]) [0, 1] rfl) (hD.sub (ws' := [(h, .inr (1, [.ref q_1, .int 0, .int 0])), (q_1, .inl (cI, 256, .inl (fun _ => 0)))]) [0, 1] (by decide) rfl) hS (Nat.le_of_ble_eq_true rfl) (Nat.le_of_ble_eq_true rfl) d_X1_init_13 ⟨q_1, rfl⟩
set_option maxHeartbeats 4000000 in
set_option maxRecDepth 100000 in
theorem c_X4_init (l : Launch) (D : va_G) (cI cZ cQ : ClassId) (h : Nat) : cu_V l D (cu_TY cI cZ cQ) yX4_init cX4_init 1 1 12 2 12 [.ref h] [(h, .inr (3, [.null, .null, .int 0]))] (fun ww => ∃ w : Nat, ∃ y : Nat, ww = [(h, .inr (3, [.ref w, .ref y, .int 0]))]) := by
  refine cu_V.intro (by decide) (Nat.le_of_ble_eq_true rfl) ?_
  intro p e s m args below meth c Q ls A S hin hret hP hD hS hA hK hl
  obtain ⟨hx, hb, hml, hown, hg⟩ := S
  have hown : s.vm.findClass RX4 = some m.cls := hown
  have hin : meth.name = "<init>" := hin
  have hl : lv_has ls 1 [(0, .ref h)] := hl
  refine lv_aload_n hx hb d_X4_init_0 rfl (lv_at hl 0 rfl) ?_
  refine W.objInit hx hb hown (hg _ k_165) (hg _ k_61) (hg _ k_62) rfl (by rw [hml]; exact hl.1) rfl d_X4_init_1 (Nat.le_of_ble_eq_true rfl) (Nat.le_of_ble_eq_true rfl) ?_
  refine W.eq (g2 := F0 m 4 ls []) rfl ?_
  refine lv_aload_n hx hb d_X4_init_4 rfl (lv_at hl 0 rfl) ?_
  refine lv_bipush (v := 6) hx hb d_X4_init_5 (by decide) ?_
  refine cu_newI 6 hx hb (hg _ k_77) hK hP hD hS hA (by decide) (by decide +kernel) (Nat.le_of_ble_eq_true rfl) (Nat.le_of_ble_eq_true rfl) (Nat.le_of_ble_eq_true rfl) d_X4_init_7 (fun q_1 H hP hD hS => ?_)
  have hP : va_P D vwCl [(h, .inr (3, [.null, .null, .int 0])), (q_1, .inl (cI, 6, .inl (fun _ => 0)))] H := hP
  have hD : va_D A [(h, .inr (3, [.null, .null, .int 0])), (q_1, .inl (cI, 6, .inl (fun _ => 0)))] := hD
  refine W.widen (k := 1) (n := 6) (Nat.le_of_ble_eq_true rfl) (Nat.le_of_ble_eq_true rfl) ?_
  refine va_putF (D := D) (ci := 3) (v := .ref q_1) (ty := .array .int) (C := RX4) (T := TX4) (N := 3) hx hb hg cu_iX4 tyX4 tyX4_ok nmX4 hown hK.1 hP hD hS 0 rfl rfl 0 (by decide) (hg _ k_166) (fun _ h9 => h9) rfl hin rfl (by decide +kernel) rfl rfl (Nat.le_of_ble_eq_true rfl) d_X4_init_9 (fun H locs hP hD hS => ?_)
  have hP : va_P D vwCl [(h, .inr (3, [.ref q_1, .null, .int 0])), (q_1, .inl (cI, 6, .inl (fun _ => 0)))] H := hP
  have hD : va_D A [(h, .inr (3, [.ref q_1, .null, .int 0])), (q_1, .inl (cI, 6, .inl (fun _ => 0)))] := hD
  refine lv_aload_n hx hb d_X4_init_12 rfl (lv_at hl 0 rfl) ?_
  refine lv_bipush (v := 6) hx hb d_X4_init_13 (by decide) ?_
  refine cu_newZ 6 hx hb (hg _ k_177) hK hP hD hS hA (by decide) (by decide +kernel) (Nat.le_of_ble_eq_true rfl) (Nat.le_of_ble_eq_true rfl) (Nat.le_of_ble_eq_true rfl) d_X4_init_15 (fun q_2 H hP hD hS => ?_)
  have hP : va_P D vwCl [(h, .inr (3, [.ref q_1, .null, .int 0])), (q_1, .inl (cI, 6, .inl (fun _ => 0))), (q_2, .inl (cZ, 6, .inl (fun _ => 0)))] H := hP
  have hD : va_D A [(h, .inr (3, [.ref q_1, .null, .int 0])), (q_1, .inl (cI, 6, .inl (fun _ => 0))), (q_2, .inl (cZ, 6, .inl (fun _ => 0)))] := hD
  refine W.widen (k := 2) (n := 12) (Nat.le_of_ble_eq_true rfl) (Nat.le_of_ble_eq_true rfl) ?_
  refine va_putF (D := D) (ci := 3) (v := .ref q_2) (ty := .array .boolean) (C := RX4) (T := TX4) (N := 3) hx hb hg cu_iX4 tyX4 tyX4_ok nmX4 hown hK.1 hP hD hS 0 rfl rfl 1 (by decide) (hg _ k_167) (fun _ h9 => h9) rfl hin rfl (by decide +kernel) rfl rfl (Nat.le_of_ble_eq_true rfl) d_X4_init_17 (fun H locs hP hD hS => ?_)
  have hP : va_P D vwCl [(h, .inr (3, [.ref q_1, .ref q_2, .int 0])), (q_1, .inl (cI, 6, .inl (fun _ => 0))), (q_2, .inl (cZ, 6, .inl (fun _ => 0)))] H := hP
  have hD : va_D A [(h, .inr (3, [.ref q_1, .ref q_2, .int 0])), (q_1, .inl (cI, 6, .inl (fun _ => 0))), (q_2, .inl (cZ, 6, .inl (fun _ => 0)))] := hD
  exact hret _ _ _ _ [(h, .inr (3, [.ref q_1, .ref q_2, .int 0]))] _ _ (hP.sub (ws' := [(h, .inr (3, [.ref q_1, .ref q_2, .int 0]))]) [0] rfl) (hD.sub (ws' := [(h, .inr (3, [.ref q_1, .ref q_2, .int 0]))]) [0] (by decide) rfl) hS (Nat.le_of_ble_eq_true rfl) (Nat.le_of_ble_eq_true rfl) d_X4_init_20 ⟨q_1, q_2, rfl⟩
set_option maxHeartbeats 4000000 in
set_option maxRecDepth 100000 in
theorem c_X6_init (l : Launch) (D : va_G) (cI cZ cQ : ClassId) (h : Nat) : cu_V l D (cu_TY cI cZ cQ) yX6_init cX6_init 1 1 12 5 14023 [.ref h] [(h, .inr (4, [.null, .null, .null, .null, .null, .int 0, .int 0, .int 0, .int 0, .int 0, .int 0]))] (fun ww => ∃ w : Nat, ∃ y : Nat, ∃ a : Nat, ∃ u : Nat, ∃ v : Nat, ww = [(h, .inr (4, [.ref w, .ref y, .ref a, .ref u, .ref v, .int 1, .int 0, .int 0, .int 0, .int 0, .int 0])), (w, .inl (cI, 12, .inl (fun _ => 0))), (y, .inl (cI, 12, .inl (fun _ => 0))), (a, .inl (cI, 12000, .inl (fun _ => 0))), (u, .inl (cI, 1000, .inl (fun _ => 0))), (v, .inl (cI, 999, .inl (fun _ => 0)))]) := by
  refine cu_V.intro (by decide) (Nat.le_of_ble_eq_true rfl) ?_
  intro p e s m args below meth c Q ls A S hin hret hP hD hS hA hK hl
  obtain ⟨hx, hb, hml, hown, hg⟩ := S
  have hown : s.vm.findClass RX6 = some m.cls := hown
  have hin : meth.name = "<init>" := hin
  have hl : lv_has ls 1 [(0, .ref h)] := hl
  refine lv_aload_n hx hb d_X6_init_0 rfl (lv_at hl 0 rfl) ?_
  refine W.objInit hx hb hown (hg _ k_430) (hg _ k_61) (hg _ k_62) rfl (by rw [hml]; exact hl.1) rfl d_X6_init_1 (Nat.le_of_ble_eq_true rfl) (Nat.le_of_ble_eq_true rfl) ?_
  refine W.eq (g2 := F0 m 4 ls []) rfl ?_
  refine lv_aload_n hx hb d_X6_init_4 rfl (lv_at hl 0 rfl) ?_
  refine lv_bipush (v := 12) hx hb d_X6_init_5 (by decide) ?_
  refine cu_newI 12 hx hb (hg _ k_77) hK hP hD hS hA (by decide) (by decide +kernel) (Nat.le_of_ble_eq_true rfl) (Nat.le_of_ble_eq_true rfl) (Nat.le_of_ble_eq_true rfl) d_X6_init_7 (fun q_1 H hP hD hS => ?_)
  have hP : va_P D vwCl [(h, .inr (4, [.null, .null, .null, .null, .null, .int 0, .int 0, .int 0, .int 0, .int 0, .int 0])), (q_1, .inl (cI, 12, .inl (fun _ => 0)))] H := hP
  have hD : va_D A [(h, .inr (4, [.null, .null, .null, .null, .null, .int 0, .int 0, .int 0, .int 0, .int 0, .int 0])), (q_1, .inl (cI, 12, .inl (fun _ => 0)))] := hD
  refine W.widen (k := 1) (n := 12) (Nat.le_of_ble_eq_true rfl) (Nat.le_of_ble_eq_true rfl) ?_
  refine va_putF (D := D) (ci := 4) (v := .ref q_1) (ty := .array .int) (C := RX6) (T := TX6) (N := 11) hx hb hg cu_iX6 tyX6 tyX6_ok nmX6 hown hK.1 hP hD hS 0 rfl rfl 0 (by decide) (hg _ k_431) (fun _ h9 => h9) rfl hin rfl (by decide +kernel) rfl rfl (Nat.le_of_ble_eq_true rfl) d_X6_init_9 (fun H locs hP hD hS => ?_)
  have hP : va_P D vwCl [(h, .inr (4, [.ref q_1, .null, .null, .null, .null, .int 0, .int 0, .int 0, .int 0, .int 0, .int 0])), (q_1, .inl (cI, 12, .inl (fun _ => 0)))] H := hP
  have hD : va_D A [(h, .inr (4, [.ref q_1, .null, .null, .null, .null, .int 0, .int 0, .int 0, .int 0, .int 0, .int 0])), (q_1, .inl (cI, 12, .inl (fun _ => 0)))] := hD
  refine lv_aload_n hx hb d_X6_init_12 rfl (lv_at hl 0 rfl) ?_
  refine lv_bipush (v := 12) hx hb d_X6_init_13 (by decide) ?_
  refine cu_newI 12 hx hb (hg _ k_77) hK hP hD hS hA (by decide) (by decide +kernel) (Nat.le_of_ble_eq_true rfl) (Nat.le_of_ble_eq_true rfl) (Nat.le_of_ble_eq_true rfl) d_X6_init_15 (fun q_2 H hP hD hS => ?_)
  have hP : va_P D vwCl [(h, .inr (4, [.ref q_1, .null, .null, .null, .null, .int 0, .int 0, .int 0, .int 0, .int 0, .int 0])), (q_1, .inl (cI, 12, .inl (fun _ => 0))), (q_2, .inl (cI, 12, .inl (fun _ => 0)))] H := hP
  have hD : va_D A [(h, .inr (4, [.ref q_1, .null, .null, .null, .null, .int 0, .int 0, .int 0, .int 0, .int 0, .int 0])), (q_1, .inl (cI, 12, .inl (fun _ => 0))), (q_2, .inl (cI, 12, .inl (fun _ => 0)))] := hD
  refine W.widen (k := 2) (n := 24) (Nat.le_of_ble_eq_true rfl) (Nat.le_of_ble_eq_true rfl) ?_
  refine va_putF (D := D) (ci := 4) (v := .ref q_2) (ty := .array .int) (C := RX6) (T := TX6) (N := 11) hx hb hg cu_iX6 tyX6 tyX6_ok nmX6 hown hK.1 hP hD hS 0 rfl rfl 1 (by decide) (hg _ k_432) (fun _ h9 => h9) rfl hin rfl (by decide +kernel) rfl rfl (Nat.le_of_ble_eq_true rfl) d_X6_init_17 (fun H locs hP hD hS => ?_)
  have hP : va_P D vwCl [(h, .inr (4, [.ref q_1, .ref q_2, .null, .null, .null, .int 0, .int 0, .int 0, .int 0, .int 0, .int 0])), (q_1, .inl (cI, 12, .inl (fun _ => 0))), (q_2, .inl (cI, 12, .inl (fun _ => 0)))] H := hP
  have hD : va_D A [(h, .inr (4, [.ref q_1, .ref q_2, .null, .null, .null, .int 0, .int 0, .int 0, .int 0, .int 0, .int 0])), (q_1, .inl (cI, 12, .inl (fun _ => 0))), (q_2, .inl (cI, 12, .inl (fun _ => 0)))] := hD
  refine lv_aload_n hx hb d_X6_init_20 rfl (lv_at hl 0 rfl) ?_
  refine lv_sipush (v := 12000) hx hb d_X6_init_21 (by decide) ?_
  refine cu_newI 12000 hx hb (hg _ k_77) hK hP hD hS hA (by decide) (by decide +kernel) (Nat.le_of_ble_eq_true rfl) (Nat.le_of_ble_eq_true rfl) (Nat.le_of_ble_eq_true rfl) d_X6_init_24 (fun q_3 H hP hD hS => ?_)
  have hP : va_P D vwCl [(h, .inr (4, [.ref q_1, .ref q_2, .null, .null, .null, .int 0, .int 0, .int 0, .int 0, .int 0, .int 0])), (q_1, .inl (cI, 12, .inl (fun _ => 0))), (q_2, .inl (cI, 12, .inl (fun _ => 0))), (q_3, .inl (cI, 12000, .inl (fun _ => 0)))] H := hP
  have hD : va_D A [(h, .inr (4, [.ref q_1, .ref q_2, .null, .null, .null, .int 0, .int 0, .int 0, .int 0, .int 0, .int 0])), (q_1, .inl (cI, 12, .inl (fun _ => 0))), (q_2, .inl (cI, 12, .inl (fun _ => 0))), (q_3, .inl (cI, 12000, .inl (fun _ => 0)))] := hD
  refine W.widen (k := 3) (n := 12024) (Nat.le_of_ble_eq_true rfl) (Nat.le_of_ble_eq_true rfl) ?_
  refine va_putF (D := D) (ci := 4) (v := .ref q_3) (ty := .array .int) (C := RX6) (T := TX6) (N := 11) hx hb hg cu_iX6 tyX6 tyX6_ok nmX6 hown hK.1 hP hD hS 0 rfl rfl 2 (by decide) (hg _ k_433) (fun _ h9 => h9) rfl hin rfl (by decide +kernel) rfl rfl (Nat.le_of_ble_eq_true rfl) d_X6_init_26 (fun H locs hP hD hS => ?_)
  have hP : va_P D vwCl [(h, .inr (4, [.ref q_1, .ref q_2, .ref q_3, .null, .null, .int 0, .int 0, .int 0, .int 0, .int 0, .int 0])), (q_1, .inl (cI, 12, .inl (fun _ => 0))), (q_2, .inl (cI, 12, .inl (fun _ => 0))), (q_3, .inl (cI, 12000, .inl (fun _ => 0)))] H := hP
  have hD : va_D A [(h, .inr (4, [.ref q_1, .ref q_2, .ref q_3, .null, .null, .int 0, .int 0, .int 0, .int 0, .int 0, .int 0])), (q_1, .inl (cI, 12, .inl (fun _ => 0))), (q_2, .inl (cI, 12, .inl (fun _ => 0))), (q_3, .inl (cI, 12000, .inl (fun _ => 0)))] := hD
  refine lv_aload_n hx hb d_X6_init_29 rfl (lv_at hl 0 rfl) ?_
  refine lv_sipush (v := 1000) hx hb d_X6_init_30 (by decide) ?_
  refine cu_newI 1000 hx hb (hg _ k_77) hK hP hD hS hA (by decide) (by decide +kernel) (Nat.le_of_ble_eq_true rfl) (Nat.le_of_ble_eq_true rfl) (Nat.le_of_ble_eq_true rfl) d_X6_init_33 (fun q_4 H hP hD hS => ?_)
  have hP : va_P D vwCl [(h, .inr (4, [.ref q_1, .ref q_2, .ref q_3, .null, .null, .int 0, .int 0, .int 0, .int 0, .int 0, .int 0])), (q_1, .inl (cI, 12, .inl (fun _ => 0))), (q_2, .inl (cI, 12, .inl (fun _ => 0))), (q_3, .inl (cI, 12000, .inl (fun _ => 0))), (q_4, .inl (cI, 1000, .inl (fun _ => 0)))] H := hP
  have hD : va_D A [(h, .inr (4, [.ref q_1, .ref q_2, .ref q_3, .null, .null, .int 0, .int 0, .int 0, .int 0, .int 0, .int 0])), (q_1, .inl (cI, 12, .inl (fun _ => 0))), (q_2, .inl (cI, 12, .inl (fun _ => 0))), (q_3, .inl (cI, 12000, .inl (fun _ => 0))), (q_4, .inl (cI, 1000, .inl (fun _ => 0)))] := hD
  refine W.widen (k := 4) (n := 13024) (Nat.le_of_ble_eq_true rfl) (Nat.le_of_ble_eq_true rfl) ?_
  refine va_putF (D := D) (ci := 4) (v := .ref q_4) (ty := .array .int) (C := RX6) (T := TX6) (N := 11) hx hb hg cu_iX6 tyX6 tyX6_ok nmX6 hown hK.1 hP hD hS 0 rfl rfl 3 (by decide) (hg _ k_434) (fun _ h9 => h9) rfl hin rfl (by decide +kernel) rfl rfl (Nat.le_of_ble_eq_true rfl) d_X6_init_35 (fun H locs hP hD hS => ?_)
  have hP : va_P D vwCl [(h, .inr (4, [.ref q_1, .ref q_2, .ref q_3, .ref q_4, .null, .int 0, .int 0, .int 0, .int 0, .int 0, .int 0])), (q_1, .inl (cI, 12, .inl (fun _ => 0))), (q_2, .inl (cI, 12, .inl (fun _ => 0))), (q_3, .inl (cI, 12000, .inl (fun _ => 0))), (q_4, .inl (cI, 1000, .inl (fun _ => 0)))] H := hP
  have hD : va_D A [(h, .inr (4, [.ref q_1, .ref q_2, .ref q_3, .ref q_4, .null, .int 0, .int 0, .int 0, .int 0, .int 0, .int 0])), (q_1, .inl (cI, 12, .inl (fun _ => 0))), (q_2, .inl (cI, 12, .inl (fun _ => 0))), (q_3, .inl (cI, 12000, .inl (fun _ => 0))), (q_4, .inl (cI, 1000, .inl (fun _ => 0)))] := hD
  refine lv_aload_n hx hb d_X6_init_38 rfl (lv_at hl 0 rfl) ?_
  refine lv_sipush (v := 999) hx hb d_X6_init_39 (by decide) ?_
  refine cu_newI 999 hx hb (hg _ k_77) hK hP hD hS hA (by decide) (by decide +kernel) (Nat.le_of_ble_eq_true rfl) (Nat.le_of_ble_eq_true rfl) (Nat.le_of_ble_eq_true rfl) d_X6_init_42 (fun q_5 H hP hD hS => ?_)
  have hP : va_P D vwCl [(h, .inr (4, [.ref q_1, .ref q_2, .ref q_3, .ref q_4, .null, .int 0, .int 0, .int 0, .int 0, .int 0, .int 0])), (q_1, .inl (cI, 12, .inl (fun _ => 0))), (q_2, .inl (cI, 12, .inl (fun _ => 0))), (q_3, .inl (cI, 12000, .inl (fun _ => 0))), (q_4, .inl (cI, 1000, .inl (fun _ => 0))), (q_5, .inl (cI, 999, .inl (fun _ => 0)))] H := hP
  have hD : va_D A [(h, .inr (4, [.ref q_1, .ref q_2, .ref q_3, .ref q_4, .null, .int 0, .int 0, .int 0, .int 0, .int 0, .int 0])), (q_1, .inl (cI, 12, .inl (fun _ => 0))), (q_2, .inl (cI, 12, .inl (fun _ => 0))), (q_3, .inl (cI, 12000, .inl (fun _ => 0))), (q_4, .inl (cI, 1000, .inl (fun _ => 0))), (q_5, .inl (cI, 999, .inl (fun _ => 0)))] := hD
  refine W.widen (k := 5) (n := 14023) (Nat.le_of_ble_eq_true rfl) (Nat.le_of_ble_eq_true rfl) ?_
  refine va_putF (D := D) (ci := 4) (v := .ref q_5) (ty := .array .int) (C := RX6) (T := TX6) (N := 11) hx hb hg cu_iX6 tyX6 tyX6_ok nmX6 hown hK.1 hP hD hS 0 rfl rfl 4 (by decide) (hg _ k_435) (fun _ h9 => h9) rfl hin rfl (by decide +kernel) rfl rfl (Nat.le_of_ble_eq_true rfl) d_X6_init_44 (fun H locs hP hD hS => ?_)
  have hP : va_P D vwCl [(h, .inr (4, [.ref q_1, .ref q_2, .ref q_3, .ref q_4, .ref q_5, .int 0, .int 0, .int 0, .int 0, .int 0, .int 0])), (q_1, .inl (cI, 12, .inl (fun _ => 0))), (q_2, .inl (cI, 12, .inl (fun _ => 0))), (q_3, .inl (cI, 12000, .inl (fun _ => 0))), (q_4, .inl (cI, 1000, .inl (fun _ => 0))), (q_5, .inl (cI, 999, .inl (fun _ => 0)))] H := hP
  have hD : va_D A [(h, .inr (4, [.ref q_1, .ref q_2, .ref q_3, .ref q_4, .ref q_5, .int 0, .int 0, .int 0, .int 0, .int 0, .int 0])), (q_1, .inl (cI, 12, .inl (fun _ => 0))), (q_2, .inl (cI, 12, .inl (fun _ => 0))), (q_3, .inl (cI, 12000, .inl (fun _ => 0))), (q_4, .inl (cI, 1000, .inl (fun _ => 0))), (q_5, .inl (cI, 999, .inl (fun _ => 0)))] := hD
  refine lv_aload_n hx hb d_X6_init_47 rfl (lv_at hl 0 rfl) ?_
  refine lv_iconst (v := 1) hx hb d_X6_init_48 (by decide) ?_
  refine va_put (D := D) (ci := 4) (v := .int 1) (ty := .int) (C := RX6) (T := TX6) (N := 11) hx hb hg cu_iX6 tyX6 tyX6_ok nmX6 hown hK.1 hP hD hS 0 rfl rfl 5 (by decide) (hg _ k_436) (fun _ h9 => h9) rfl (by decide +kernel) rfl rfl (Nat.le_of_ble_eq_true rfl) d_X6_init_49 (fun H locs hP hD hS => ?_)
  have hP : va_P D vwCl [(h, .inr (4, [.ref q_1, .ref q_2, .ref q_3, .ref q_4, .ref q_5, .int 1, .int 0, .int 0, .int 0, .int 0, .int 0])), (q_1, .inl (cI, 12, .inl (fun _ => 0))), (q_2, .inl (cI, 12, .inl (fun _ => 0))), (q_3, .inl (cI, 12000, .inl (fun _ => 0))), (q_4, .inl (cI, 1000, .inl (fun _ => 0))), (q_5, .inl (cI, 999, .inl (fun _ => 0)))] H := hP
  have hD : va_D A [(h, .inr (4, [.ref q_1, .ref q_2, .ref q_3, .ref q_4, .ref q_5, .int 1, .int 0, .int 0, .int 0, .int 0, .int 0])), (q_1, .inl (cI, 12, .inl (fun _ => 0))), (q_2, .inl (cI, 12, .inl (fun _ => 0))), (q_3, .inl (cI, 12000, .inl (fun _ => 0))), (q_4, .inl (cI, 1000, .inl (fun _ => 0))), (q_5, .inl (cI, 999, .inl (fun _ => 0)))] := hD
  exact hret _ _ _ _ [(h, .inr (4, [.ref q_1, .ref q_2, .ref q_3, .ref q_4, .ref q_5, .int 1, .int 0, .int 0, .int 0, .int 0, .int 0])), (q_1, .inl (cI, 12, .inl (fun _ => 0))), (q_2, .inl (cI, 12, .inl (fun _ => 0))), (q_3, .inl (cI, 12000, .inl (fun _ => 0))), (q_4, .inl (cI, 1000, .inl (fun _ => 0))), (q_5, .inl (cI, 999, .inl (fun _ => 0)))] _ _ (hP.sub (ws' := [(h, .inr (4, [.ref q_1, .ref q_2, .ref q_3, .ref q_4, .ref q_5, .int 1, .int 0, .int 0, .int 0, .int 0, .int 0])), (q_1, .inl (cI, 12, .inl (fun _ => 0))), (q_2, .inl (cI, 12, .inl (fun _ => 0))), (q_3, .inl (cI, 12000, .inl (fun _ => 0))), (q_4, .inl (cI, 1000, .inl (fun _ => 0))), (q_5, .inl (cI, 999, .inl (fun _ => 0)))]) [0, 1, 2, 3, 4, 5] rfl) (hD.sub (ws' := [(h, .inr (4, [.ref q_1, .ref q_2, .ref q_3, .ref q_4, .ref q_5, .int 1, .int 0, .int 0, .int 0, .int 0, .int 0])), (q_1, .inl (cI, 12, .inl (fun _ => 0))), (q_2, .inl (cI, 12, .inl (fun _ => 0))), (q_3, .inl (cI, 12000, .inl (fun _ => 0))), (q_4, .inl (cI, 1000, .inl (fun _ => 0))), (q_5, .inl (cI, 999, .inl (fun _ => 0)))]) [0, 1, 2, 3, 4, 5] (by decide) rfl) hS (Nat.le_of_ble_eq_true rfl) (Nat.le_of_ble_eq_true rfl) d_X6_init_52 ⟨q_1, q_2, q_3, q_4, q_5, rfl⟩
set_option maxHeartbeats 4000000 in
set_option maxRecDepth 100000 in
theorem c_X8_init (l : Launch) (D : va_G) (cI cZ cQ : ClassId) (x : Nat) : cu_V l D (cu_TY cI cZ cQ) yX8_init cX8_init 2 2 32 33 645 [.ref x] [(x, .inr (6, [.null, .null, .null, .null, .null, .null, .null, .null, .null, .long 0]))] (fun ww => ∃ tx : Nat, ∃ nw : Nat, ∃ sp : Nat, ∃ ac : Nat, ∃ cr : Nat, ∃ sg : Nat, ∃ sl : Nat, ∃ fl : Nat, ∃ ts : Nat, ∃ n1 : Nat, ∃ n2 : Nat, ∃ n3 : Nat, ∃ n4 : Nat, ∃ p1 : Nat, ∃ p2 : Nat, ∃ p3 : Nat, ∃ p4 : Nat, ∃ k1 : Nat, ∃ k2 : Nat, ∃ k3 : Nat, ∃ vs : Nat, ∃ g1 : Nat, ∃ g2 : Nat, ∃ h0 : Nat, ∃ h1 : Nat, ∃ a1 : Nat, ∃ a2 : Nat, ∃ a3 : Nat, ∃ a4 : Nat, ∃ b1 : Nat, ∃ b2 : Nat, ∃ b3 : Nat, ∃ b4 : Nat, ww = [(x, .inr (6, [.ref tx, .ref nw, .ref sp, .ref ac, .ref cr, .ref sg, .ref sl, .ref fl, .null, .long 0])), (tx, .inr (5, [.ref ts, .int 0])), (ts, .inl (cI, 130, .inl (fun _ => 0))), (nw, .inr (2, [.ref n1, .ref n2, .ref n3, .ref n4, .int 0, .int 0, .int 1, .int 0])), (n1, .inl (cI, 12, .inl (fun _ => 0))), (n2, .inl (cI, 12, .inl (fun _ => 0))), (n3, .inl (cI, 12, .inl (fun _ => 0))), (n4, .inl (cI, 3, .inl (fun _ => 0))), (sp, .inr (2, [.ref p1, .ref p2, .ref p3, .ref p4, .int 0, .int 0, .int 1, .int 0])), (p1, .inl (cI, 12, .inl (fun _ => 0))), (p2, .inl (cI, 12, .inl (fun _ => 0))), (p3, .inl (cI, 12, .inl (fun _ => 0))), (p4, .inl (cI, 3, .inl (fun _ => 0))), (ac, .inr (0, [.ref k1, .ref k2, .ref k3, .int 0, .int 0])), (k1, .inl (cI, 14, .inl (fun _ => 0))), (k2, .inl (cI, 14, .inl (fun _ => 0))), (k3, .inl (cI, 14, .inl (fun _ => 0))), (cr, .inr (1, [.ref vs, .int 0, .int 0])), (vs, .inl (cI, 256, .inl (fun _ => 0))), (sg, .inr (3, [.ref g1, .ref g2, .int 0])), (sl, .inl (cQ, 2, .inr (.inr (.inr (.inr (va_up (va_up (fun _ => none) 0 (some h0)) 1 (some h1))))))), (h0, .inr (2, [.ref a1, .ref a2, .ref a3, .ref a4, .int 0, .int 0, .int 1, .int 0])), (a1, .inl (cI, 12, .inl (fun _ => 0))), (a2, .inl (cI, 12, .inl (fun _ => 0))), (a3, .inl (cI, 12, .inl (fun _ => 0))), (a4, .inl (cI, 3, .inl (fun _ => 0))), (h1, .inr (2, [.ref b1, .ref b2, .ref b3, .ref b4, .int 0, .int 0, .int 1, .int 0])), (b1, .inl (cI, 12, .inl (fun _ => 0))), (b2, .inl (cI, 12, .inl (fun _ => 0))), (b3, .inl (cI, 12, .inl (fun _ => 0))), (b4, .inl (cI, 3, .inl (fun _ => 0))), (fl, .inl (cZ, 2, .inl (fun _ => 0)))]) := by
  refine cu_V.intro (by decide) (Nat.le_of_ble_eq_true rfl) ?_
  intro p e s m args below meth c Q ls A S hin hret hP hD hS hA hK hl
  obtain ⟨hx, hb, hml, hown, hg⟩ := S
  have hown : s.vm.findClass RX8 = some m.cls := hown
  have hin : meth.name = "<init>" := hin
  have hl : lv_has ls 2 [(0, .ref x)] := hl
  refine lv_aload_n hx hb d_X8_init_0 rfl (lv_at hl 0 rfl) ?_
  refine W.objInit hx hb hown (hg _ k_60) (hg _ k_61) (hg _ k_62) rfl (by rw [hml]; exact hl.1) rfl d_X8_init_1 (Nat.le_of_ble_eq_true rfl) (Nat.le_of_ble_eq_true rfl) ?_
  refine W.eq (g2 := F0 m 4 ls []) rfl ?_
  refine lv_aload_n hx hb d_X8_init_4 rfl (lv_at hl 0 rfl) ?_
  refine va_new (ci := 5) (fs := [.null, .int 0]) (C := RX7) (T := TX7) (N := 2) hx hb hg cu_iX7 tyX7 tyX7_ok hown (hg _ k_63) (hg _ k_64) (hg _ k_44) hK.1 hP hD hS hA rfl (fun j hj => by rcases (show j = 0 ∨ j = 1 by omega) with rfl | rfl <;> rfl) (Nat.le_of_ble_eq_true rfl) (Nat.le_of_ble_eq_true rfl) d_X8_init_5 (fun q_1 H hP hD hS => ?_)
  have hP : va_P D vwCl [(x, .inr (6, [.null, .null, .null, .null, .null, .null, .null, .null, .null, .long 0])), (q_1, .inr (5, [.null, .int 0]))] H := hP
  have hD : va_D A [(x, .inr (6, [.null, .null, .null, .null, .null, .null, .null, .null, .null, .long 0])), (q_1, .inr (5, [.null, .int 0]))] := hD
  refine W.widen (k := 1) (n := 2) (Nat.le_of_ble_eq_true rfl) (Nat.le_of_ble_eq_true rfl) ?_
  refine lv_dup hx hb d_X8_init_8 rfl ?_
  refine cu_NV (wc := [(q_1, .inr (5, [.null, .int 0]))]) (wr := [(x, .inr (6, [.null, .null, .null, .null, .null, .null, .null, .null, .null, .long 0]))]) (rest := [.ref q_1, .ref x]) [] ⟨hx, hb, hml, hown, hg⟩ (c_X7_init l D cI cZ cQ q_1) hd_X7_init k_67 hK.2.2.1 k_66 k_44 rfl ⟨Nat.le_of_ble_eq_true rfl, Nat.le_of_ble_eq_true rfl⟩ ⟨Nat.le_of_ble_eq_true rfl, Nat.le_of_ble_eq_true rfl⟩ hP hD hS hA hK [1] [0] rfl rfl (by decide) (by decide) (by decide) rfl hl.1 rfl (Nat.le_of_ble_eq_true rfl) d_X8_init_9 (fun w_4 H locs hw_3 hP hD hS => ?_)
  obtain ⟨w_5, rfl⟩ := hw_3
  have hP : va_P D vwCl [(x, .inr (6, [.null, .null, .null, .null, .null, .null, .null, .null, .null, .long 0])), (q_1, .inr (5, [.ref w_5, .int 0])), (w_5, .inl (cI, 130, .inl (fun _ => 0)))] H := hP
  have hD : va_D A [(x, .inr (6, [.null, .null, .null, .null, .null, .null, .null, .null, .null, .long 0])), (q_1, .inr (5, [.ref w_5, .int 0])), (w_5, .inl (cI, 130, .inl (fun _ => 0)))] := hD
  refine W.widen (k := 2) (n := 132) (Nat.le_of_ble_eq_true rfl) (Nat.le_of_ble_eq_true rfl) ?_
  refine va_putF (D := D) (ci := 6) (v := .ref q_1) (ty := .object "CommonUnits$Text") (C := RX8) (T := TX8) (N := 10) hx hb hg cu_iX8 tyX8 tyX8_ok nmX8 hown hK.1 hP hD hS 0 rfl rfl 0 (by decide) (hg _ k_179) (fun _ h9 => h9) rfl hin rfl (by decide +kernel) rfl rfl (Nat.le_of_ble_eq_true rfl) d_X8_init_12 (fun H locs hP hD hS => ?_)
  have hP : va_P D vwCl [(x, .inr (6, [.ref q_1, .null, .null, .null, .null, .null, .null, .null, .null, .long 0])), (q_1, .inr (5, [.ref w_5, .int 0])), (w_5, .inl (cI, 130, .inl (fun _ => 0)))] H := hP
  have hD : va_D A [(x, .inr (6, [.ref q_1, .null, .null, .null, .null, .null, .null, .null, .null, .long 0])), (q_1, .inr (5, [.ref w_5, .int 0])), (w_5, .inl (cI, 130, .inl (fun _ => 0)))] := hD
  refine lv_aload_n hx hb d_X8_init_15 rfl (lv_at hl 0 rfl) ?_
  refine va_new (ci := 2) (fs := [.null, .null, .null, .null, .int 0, .int 0, .int 0, .int 0]) (C := RX3) (T := TX3) (N := 8) hx hb hg cu_iX3 tyX3 tyX3_ok hown (hg _ k_78) (hg _ k_79) (hg _ k_45) hK.1 hP hD hS hA rfl (fun j hj => by rcases (show j = 0 ∨ j = 1 ∨ j = 2 ∨ j = 3 ∨ j = 4 ∨ j = 5 ∨ j = 6 ∨ j = 7 by omega) with rfl | rfl | rfl | rfl | rfl | rfl | rfl | rfl <;> rfl) (Nat.le_of_ble_eq_true rfl) (Nat.le_of_ble_eq_true rfl) d_X8_init_16 (fun q_6 H hP hD hS => ?_)
  have hP : va_P D vwCl [(x, .inr (6, [.ref q_1, .null, .null, .null, .null, .null, .null, .null, .null, .long 0])), (q_1, .inr (5, [.ref w_5, .int 0])), (w_5, .inl (cI, 130, .inl (fun _ => 0))), (q_6, .inr (2, [.null, .null, .null, .null, .int 0, .int 0, .int 0, .int 0]))] H := hP
  have hD : va_D A [(x, .inr (6, [.ref q_1, .null, .null, .null, .null, .null, .null, .null, .null, .long 0])), (q_1, .inr (5, [.ref w_5, .int 0])), (w_5, .inl (cI, 130, .inl (fun _ => 0))), (q_6, .inr (2, [.null, .null, .null, .null, .int 0, .int 0, .int 0, .int 0]))] := hD
  refine W.widen (k := 3) (n := 140) (Nat.le_of_ble_eq_true rfl) (Nat.le_of_ble_eq_true rfl) ?_
  refine lv_dup hx hb d_X8_init_19 rfl ?_
  refine cu_NV (wc := [(q_6, .inr (2, [.null, .null, .null, .null, .int 0, .int 0, .int 0, .int 0]))]) (wr := [(x, .inr (6, [.ref q_1, .null, .null, .null, .null, .null, .null, .null, .null, .long 0])), (q_1, .inr (5, [.ref w_5, .int 0])), (w_5, .inl (cI, 130, .inl (fun _ => 0)))]) (rest := [.ref q_6, .ref x]) [] ⟨hx, hb, hml, hown, hg⟩ (c_X3_init l D cI cZ cQ q_6) hd_X3_init k_82 hK.2.2.2.1 k_81 k_45 rfl ⟨Nat.le_of_ble_eq_true rfl, Nat.le_of_ble_eq_true rfl⟩ ⟨Nat.le_of_ble_eq_true rfl, Nat.le_of_ble_eq_true rfl⟩ hP hD hS hA hK [3] [0, 1, 2] rfl rfl (by decide) (by decide) (by decide) rfl hl.1 rfl (Nat.le_of_ble_eq_true rfl) d_X8_init_20 (fun w_9 H locs hw_8 hP hD hS => ?_)
  obtain ⟨w_10, y_11, a_12, u_13, rfl⟩ := hw_8
  have hP : va_P D vwCl [(x, .inr (6, [.ref q_1, .null, .null, .null, .null, .null, .null, .null, .null, .long 0])), (q_1, .inr (5, [.ref w_5, .int 0])), (w_5, .inl (cI, 130, .inl (fun _ => 0))), (q_6, .inr (2, [.ref w_10, .ref y_11, .ref a_12, .ref u_13, .int 0, .int 0, .int 1, .int 0])), (w_10, .inl (cI, 12, .inl (fun _ => 0))), (y_11, .inl (cI, 12, .inl (fun _ => 0))), (a_12, .inl (cI, 12, .inl (fun _ => 0))), (u_13, .inl (cI, 3, .inl (fun _ => 0)))] H := hP
  have hD : va_D A [(x, .inr (6, [.ref q_1, .null, .null, .null, .null, .null, .null, .null, .null, .long 0])), (q_1, .inr (5, [.ref w_5, .int 0])), (w_5, .inl (cI, 130, .inl (fun _ => 0))), (q_6, .inr (2, [.ref w_10, .ref y_11, .ref a_12, .ref u_13, .int 0, .int 0, .int 1, .int 0])), (w_10, .inl (cI, 12, .inl (fun _ => 0))), (y_11, .inl (cI, 12, .inl (fun _ => 0))), (a_12, .inl (cI, 12, .inl (fun _ => 0))), (u_13, .inl (cI, 3, .inl (fun _ => 0)))] := hD
  refine W.widen (k := 7) (n := 179) (Nat.le_of_ble_eq_true rfl) (Nat.le_of_ble_eq_true rfl) ?_
  refine va_putF (D := D) (ci := 6) (v := .ref q_6) (ty := .object "CommonUnits$Hoard") (C := RX8) (T := TX8) (N := 10) hx hb hg cu_iX8 tyX8 tyX8_ok nmX8 hown hK.1 hP hD hS 0 rfl rfl 1 (by decide) (hg _ k_180) (fun _ h9 => h9) rfl hin rfl (by decide +kernel) rfl rfl (Nat.le_of_ble_eq_true rfl) d_X8_init_23 (fun H locs hP hD hS => ?_)
  have hP : va_P D vwCl [(x, .inr (6, [.ref q_1, .ref q_6, .null, .null, .null, .null, .null, .null, .null, .long 0])), (q_1, .inr (5, [.ref w_5, .int 0])), (w_5, .inl (cI, 130, .inl (fun _ => 0))), (q_6, .inr (2, [.ref w_10, .ref y_11, .ref a_12, .ref u_13, .int 0, .int 0, .int 1, .int 0])), (w_10, .inl (cI, 12, .inl (fun _ => 0))), (y_11, .inl (cI, 12, .inl (fun _ => 0))), (a_12, .inl (cI, 12, .inl (fun _ => 0))), (u_13, .inl (cI, 3, .inl (fun _ => 0)))] H := hP
  have hD : va_D A [(x, .inr (6, [.ref q_1, .ref q_6, .null, .null, .null, .null, .null, .null, .null, .long 0])), (q_1, .inr (5, [.ref w_5, .int 0])), (w_5, .inl (cI, 130, .inl (fun _ => 0))), (q_6, .inr (2, [.ref w_10, .ref y_11, .ref a_12, .ref u_13, .int 0, .int 0, .int 1, .int 0])), (w_10, .inl (cI, 12, .inl (fun _ => 0))), (y_11, .inl (cI, 12, .inl (fun _ => 0))), (a_12, .inl (cI, 12, .inl (fun _ => 0))), (u_13, .inl (cI, 3, .inl (fun _ => 0)))] := hD
  refine lv_aload_n hx hb d_X8_init_26 rfl (lv_at hl 0 rfl) ?_
  refine va_new (ci := 2) (fs := [.null, .null, .null, .null, .int 0, .int 0, .int 0, .int 0]) (C := RX3) (T := TX3) (N := 8) hx hb hg cu_iX3 tyX3 tyX3_ok hown (hg _ k_78) (hg _ k_79) (hg _ k_45) hK.1 hP hD hS hA rfl (fun j hj => by rcases (show j = 0 ∨ j = 1 ∨ j = 2 ∨ j = 3 ∨ j = 4 ∨ j = 5 ∨ j = 6 ∨ j = 7 by omega) with rfl | rfl | rfl | rfl | rfl | rfl | rfl | rfl <;> rfl) (Nat.le_of_ble_eq_true rfl) (Nat.le_of_ble_eq_true rfl) d_X8_init_27 (fun q_14 H hP hD hS => ?_)
  have hP : va_P D vwCl [(x, .inr (6, [.ref q_1, .ref q_6, .null, .null, .null, .null, .null, .null, .null, .long 0])), (q_1, .inr (5, [.ref w_5, .int 0])), (w_5, .inl (cI, 130, .inl (fun _ => 0))), (q_6, .inr (2, [.ref w_10, .ref y_11, .ref a_12, .ref u_13, .int 0, .int 0, .int 1, .int 0])), (w_10, .inl (cI, 12, .inl (fun _ => 0))), (y_11, .inl (cI, 12, .inl (fun _ => 0))), (a_12, .inl (cI, 12, .inl (fun _ => 0))), (u_13, .inl (cI, 3, .inl (fun _ => 0))), (q_14, .inr (2, [.null, .null, .null, .null, .int 0, .int 0, .int 0, .int 0]))] H := hP
  have hD : va_D A [(x, .inr (6, [.ref q_1, .ref q_6, .null, .null, .null, .null, .null, .null, .null, .long 0])), (q_1, .inr (5, [.ref w_5, .int 0])), (w_5, .inl (cI, 130, .inl (fun _ => 0))), (q_6, .inr (2, [.ref w_10, .ref y_11, .ref a_12, .ref u_13, .int 0, .int 0, .int 1, .int 0])), (w_10, .inl (cI, 12, .inl (fun _ => 0))), (y_11, .inl (cI, 12, .inl (fun _ => 0))), (a_12, .inl (cI, 12, .inl (fun _ => 0))), (u_13, .inl (cI, 3, .inl (fun _ => 0))), (q_14, .inr (2, [.null, .null, .null, .null, .int 0, .int 0, .int 0, .int 0]))] := hD
  refine W.widen (k := 8) (n := 187) (Nat.le_of_ble_eq_true rfl) (Nat.le_of_ble_eq_true rfl) ?_
  refine lv_dup hx hb d_X8_init_30 rfl ?_
  refine cu_NV (wc := [(q_14, .inr (2, [.null, .null, .null, .null, .int 0, .int 0, .int 0, .int 0]))]) (wr := [(x, .inr (6, [.ref q_1, .ref q_6, .null, .null, .null, .null, .null, .null, .null, .long 0])), (q_1, .inr (5, [.ref w_5, .int 0])), (w_5, .inl (cI, 130, .inl (fun _ => 0))), (q_6, .inr (2, [.ref w_10, .ref y_11, .ref a_12, .ref u_13, .int 0, .int 0, .int 1, .int 0])), (w_10, .inl (cI, 12, .inl (fun _ => 0))), (y_11, .inl (cI, 12, .inl (fun _ => 0))), (a_12, .inl (cI, 12, .inl (fun _ => 0))), (u_13, .inl (cI, 3, .inl (fun _ => 0)))]) (rest := [.ref q_14, .ref x]) [] ⟨hx, hb, hml, hown, hg⟩ (c_X3_init l D cI cZ cQ q_14) hd_X3_init k_82 hK.2.2.2.1 k_81 k_45 rfl ⟨Nat.le_of_ble_eq_true rfl, Nat.le_of_ble_eq_true rfl⟩ ⟨Nat.le_of_ble_eq_true rfl, Nat.le_of_ble_eq_true rfl⟩ hP hD hS hA hK [8] [0, 1, 2, 3, 4, 5, 6, 7] rfl rfl (by decide) (by decide) (by decide) rfl hl.1 rfl (Nat.le_of_ble_eq_true rfl) d_X8_init_31 (fun w_17 H locs hw_16 hP hD hS => ?_)
  obtain ⟨w_18, y_19, a_20, u_21, rfl⟩ := hw_16
  have hP : va_P D vwCl [(x, .inr (6, [.ref q_1, .ref q_6, .null, .null, .null, .null, .null, .null, .null, .long 0])), (q_1, .inr (5, [.ref w_5, .int 0])), (w_5, .inl (cI, 130, .inl (fun _ => 0))), (q_6, .inr (2, [.ref w_10, .ref y_11, .ref a_12, .ref u_13, .int 0, .int 0, .int 1, .int 0])), (w_10, .inl (cI, 12, .inl (fun _ => 0))), (y_11, .inl (cI, 12, .inl (fun _ => 0))), (a_12, .inl (cI, 12, .inl (fun _ => 0))), (u_13, .inl (cI, 3, .inl (fun _ => 0))), (q_14, .inr (2, [.ref w_18, .ref y_19, .ref a_20, .ref u_21, .int 0, .int 0, .int 1, .int 0])), (w_18, .inl (cI, 12, .inl (fun _ => 0))), (y_19, .inl (cI, 12, .inl (fun _ => 0))), (a_20, .inl (cI, 12, .inl (fun _ => 0))), (u_21, .inl (cI, 3, .inl (fun _ => 0)))] H := hP
  have hD : va_D A [(x, .inr (6, [.ref q_1, .ref q_6, .null, .null, .null, .null, .null, .null, .null, .long 0])), (q_1, .inr (5, [.ref w_5, .int 0])), (w_5, .inl (cI, 130, .inl (fun _ => 0))), (q_6, .inr (2, [.ref w_10, .ref y_11, .ref a_12, .ref u_13, .int 0, .int 0, .int 1, .int 0])), (w_10, .inl (cI, 12, .inl (fun _ => 0))), (y_11, .inl (cI, 12, .inl (fun _ => 0))), (a_12, .inl (cI, 12, .inl (fun _ => 0))), (u_13, .inl (cI, 3, .inl (fun _ => 0))), (q_14, .inr (2, [.ref w_18, .ref y_19, .ref a_20, .ref u_21, .int 0, .int 0, .int 1, .int 0])), (w_18, .inl (cI, 12, .inl (fun _ => 0))), (y_19, .inl (cI, 12, .inl (fun _ => 0))), (a_20, .inl (cI, 12, .inl (fun _ => 0))), (u_21, .inl (cI, 3, .inl (fun _ => 0)))] := hD
  refine W.widen (k := 12) (n := 226) (Nat.le_of_ble_eq_true rfl) (Nat.le_of_ble_eq_true rfl) ?_
  refine va_putF (D := D) (ci := 6) (v := .ref q_14) (ty := .object "CommonUnits$Hoard") (C := RX8) (T := TX8) (N := 10) hx hb hg cu_iX8 tyX8 tyX8_ok nmX8 hown hK.1 hP hD hS 0 rfl rfl 2 (by decide) (hg _ k_181) (fun _ h9 => h9) rfl hin rfl (by decide +kernel) rfl rfl (Nat.le_of_ble_eq_true rfl) d_X8_init_34 (fun H locs hP hD hS => ?_)
  have hP : va_P D vwCl [(x, .inr (6, [.ref q_1, .ref q_6, .ref q_14, .null, .null, .null, .null, .null, .null, .long 0])), (q_1, .inr (5, [.ref w_5, .int 0])), (w_5, .inl (cI, 130, .inl (fun _ => 0))), (q_6, .inr (2, [.ref w_10, .ref y_11, .ref a_12, .ref u_13, .int 0, .int 0, .int 1, .int 0])), (w_10, .inl (cI, 12, .inl (fun _ => 0))), (y_11, .inl (cI, 12, .inl (fun _ => 0))), (a_12, .inl (cI, 12, .inl (fun _ => 0))), (u_13, .inl (cI, 3, .inl (fun _ => 0))), (q_14, .inr (2, [.ref w_18, .ref y_19, .ref a_20, .ref u_21, .int 0, .int 0, .int 1, .int 0])), (w_18, .inl (cI, 12, .inl (fun _ => 0))), (y_19, .inl (cI, 12, .inl (fun _ => 0))), (a_20, .inl (cI, 12, .inl (fun _ => 0))), (u_21, .inl (cI, 3, .inl (fun _ => 0)))] H := hP
  have hD : va_D A [(x, .inr (6, [.ref q_1, .ref q_6, .ref q_14, .null, .null, .null, .null, .null, .null, .long 0])), (q_1, .inr (5, [.ref w_5, .int 0])), (w_5, .inl (cI, 130, .inl (fun _ => 0))), (q_6, .inr (2, [.ref w_10, .ref y_11, .ref a_12, .ref u_13, .int 0, .int 0, .int 1, .int 0])), (w_10, .inl (cI, 12, .inl (fun _ => 0))), (y_11, .inl (cI, 12, .inl (fun _ => 0))), (a_12, .inl (cI, 12, .inl (fun _ => 0))), (u_13, .inl (cI, 3, .inl (fun _ => 0))), (q_14, .inr (2, [.ref w_18, .ref y_19, .ref a_20, .ref u_21, .int 0, .int 0, .int 1, .int 0])), (w_18, .inl (cI, 12, .inl (fun _ => 0))), (y_19, .inl (cI, 12, .inl (fun _ => 0))), (a_20, .inl (cI, 12, .inl (fun _ => 0))), (u_21, .inl (cI, 3, .inl (fun _ => 0)))] := hD
  refine lv_aload_n hx hb d_X8_init_37 rfl (lv_at hl 0 rfl) ?_
  refine va_new (ci := 0) (fs := [.null, .null, .null, .int 0, .int 0]) (C := RX0) (T := TX0) (N := 5) hx hb hg cu_iX0 tyX0 tyX0_ok hown (hg _ k_121) (hg _ k_122) (hg _ k_46) hK.1 hP hD hS hA rfl (fun j hj => by rcases (show j = 0 ∨ j = 1 ∨ j = 2 ∨ j = 3 ∨ j = 4 by omega) with rfl | rfl | rfl | rfl | rfl <;> rfl) (Nat.le_of_ble_eq_true rfl) (Nat.le_of_ble_eq_true rfl) d_X8_init_38 (fun q_22 H hP hD hS => ?_)
  have hP : va_P D vwCl [(x, .inr (6, [.ref q_1, .ref q_6, .ref q_14, .null, .null, .null, .null, .null, .null, .long 0])), (q_1, .inr (5, [.ref w_5, .int 0])), (w_5, .inl (cI, 130, .inl (fun _ => 0))), (q_6, .inr (2, [.ref w_10, .ref y_11, .ref a_12, .ref u_13, .int 0, .int 0, .int 1, .int 0])), (w_10, .inl (cI, 12, .inl (fun _ => 0))), (y_11, .inl (cI, 12, .inl (fun _ => 0))), (a_12, .inl (cI, 12, .inl (fun _ => 0))), (u_13, .inl (cI, 3, .inl (fun _ => 0))), (q_14, .inr (2, [.ref w_18, .ref y_19, .ref a_20, .ref u_21, .int 0, .int 0, .int 1, .int 0])), (w_18, .inl (cI, 12, .inl (fun _ => 0))), (y_19, .inl (cI, 12, .inl (fun _ => 0))), (a_20, .inl (cI, 12, .inl (fun _ => 0))), (u_21, .inl (cI, 3, .inl (fun _ => 0))), (q_22, .inr (0, [.null, .null, .null, .int 0, .int 0]))] H := hP
  have hD : va_D A [(x, .inr (6, [.ref q_1, .ref q_6, .ref q_14, .null, .null, .null, .null, .null, .null, .long 0])), (q_1, .inr (5, [.ref w_5, .int 0])), (w_5, .inl (cI, 130, .inl (fun _ => 0))), (q_6, .inr (2, [.ref w_10, .ref y_11, .ref a_12, .ref u_13, .int 0, .int 0, .int 1, .int 0])), (w_10, .inl (cI, 12, .inl (fun _ => 0))), (y_11, .inl (cI, 12, .inl (fun _ => 0))), (a_12, .inl (cI, 12, .inl (fun _ => 0))), (u_13, .inl (cI, 3, .inl (fun _ => 0))), (q_14, .inr (2, [.ref w_18, .ref y_19, .ref a_20, .ref u_21, .int 0, .int 0, .int 1, .int 0])), (w_18, .inl (cI, 12, .inl (fun _ => 0))), (y_19, .inl (cI, 12, .inl (fun _ => 0))), (a_20, .inl (cI, 12, .inl (fun _ => 0))), (u_21, .inl (cI, 3, .inl (fun _ => 0))), (q_22, .inr (0, [.null, .null, .null, .int 0, .int 0]))] := hD
  refine W.widen (k := 13) (n := 231) (Nat.le_of_ble_eq_true rfl) (Nat.le_of_ble_eq_true rfl) ?_
  refine lv_dup hx hb d_X8_init_41 rfl ?_
  refine cu_NV (wc := [(q_22, .inr (0, [.null, .null, .null, .int 0, .int 0]))]) (wr := [(x, .inr (6, [.ref q_1, .ref q_6, .ref q_14, .null, .null, .null, .null, .null, .null, .long 0])), (q_1, .inr (5, [.ref w_5, .int 0])), (w_5, .inl (cI, 130, .inl (fun _ => 0))), (q_6, .inr (2, [.ref w_10, .ref y_11, .ref a_12, .ref u_13, .int 0, .int 0, .int 1, .int 0])), (w_10, .inl (cI, 12, .inl (fun _ => 0))), (y_11, .inl (cI, 12, .inl (fun _ => 0))), (a_12, .inl (cI, 12, .inl (fun _ => 0))), (u_13, .inl (cI, 3, .inl (fun _ => 0))), (q_14, .inr (2, [.ref w_18, .ref y_19, .ref a_20, .ref u_21, .int 0, .int 0, .int 1, .int 0])), (w_18, .inl (cI, 12, .inl (fun _ => 0))), (y_19, .inl (cI, 12, .inl (fun _ => 0))), (a_20, .inl (cI, 12, .inl (fun _ => 0))), (u_21, .inl (cI, 3, .inl (fun _ => 0)))]) (rest := [.ref q_22, .ref x]) [] ⟨hx, hb, hml, hown, hg⟩ (c_X0_init l D cI cZ cQ q_22) hd_X0_init k_125 hK.2.2.2.2.1 k_124 k_46 rfl ⟨Nat.le_of_ble_eq_true rfl, Nat.le_of_ble_eq_true rfl⟩ ⟨Nat.le_of_ble_eq_true rfl, Nat.le_of_ble_eq_true rfl⟩ hP hD hS hA hK [13] [0, 1, 2, 3, 4, 5, 6, 7, 8, 9, 10, 11, 12] rfl rfl (by decide) (by decide) (by decide) rfl hl.1 rfl (Nat.le_of_ble_eq_true rfl) d_X8_init_42 (fun w_25 H locs hw_24 hP hD hS => ?_)
  obtain ⟨w_26, y_27, a_28, rfl⟩ := hw_24
  have hP : va_P D vwCl [(x, .inr (6, [.ref q_1, .ref q_6, .ref q_14, .null, .null, .null, .null, .null, .null, .long 0])), (q_1, .inr (5, [.ref w_5, .int 0])), (w_5, .inl (cI, 130, .inl (fun _ => 0))), (q_6, .inr (2, [.ref w_10, .ref y_11, .ref a_12, .ref u_13, .int 0, .int 0, .int 1, .int 0])), (w_10, .inl (cI, 12, .inl (fun _ => 0))), (y_11, .inl (cI, 12, .inl (fun _ => 0))), (a_12, .inl (cI, 12, .inl (fun _ => 0))), (u_13, .inl (cI, 3, .inl (fun _ => 0))), (q_14, .inr (2, [.ref w_18, .ref y_19, .ref a_20, .ref u_21, .int 0, .int 0, .int 1, .int 0])), (w_18, .inl (cI, 12, .inl (fun _ => 0))), (y_19, .inl (cI, 12, .inl (fun _ => 0))), (a_20, .inl (cI, 12, .inl (fun _ => 0))), (u_21, .inl (cI, 3, .inl (fun _ => 0))), (q_22, .inr (0, [.ref w_26, .ref y_27, .ref a_28, .int 0, .int 0])), (w_26, .inl (cI, 14, .inl (fun _ => 0))), (y_27, .inl (cI, 14, .inl (fun _ => 0))), (a_28, .inl (cI, 14, .inl (fun _ => 0)))] H := hP
  have hD : va_D A [(x, .inr (6, [.ref q_1, .ref q_6, .ref q_14, .null, .null, .null, .null, .null, .null, .long 0])), (q_1, .inr (5, [.ref w_5, .int 0])), (w_5, .inl (cI, 130, .inl (fun _ => 0))), (q_6, .inr (2, [.ref w_10, .ref y_11, .ref a_12, .ref u_13, .int 0, .int 0, .int 1, .int 0])), (w_10, .inl (cI, 12, .inl (fun _ => 0))), (y_11, .inl (cI, 12, .inl (fun _ => 0))), (a_12, .inl (cI, 12, .inl (fun _ => 0))), (u_13, .inl (cI, 3, .inl (fun _ => 0))), (q_14, .inr (2, [.ref w_18, .ref y_19, .ref a_20, .ref u_21, .int 0, .int 0, .int 1, .int 0])), (w_18, .inl (cI, 12, .inl (fun _ => 0))), (y_19, .inl (cI, 12, .inl (fun _ => 0))), (a_20, .inl (cI, 12, .inl (fun _ => 0))), (u_21, .inl (cI, 3, .inl (fun _ => 0))), (q_22, .inr (0, [.ref w_26, .ref y_27, .ref a_28, .int 0, .int 0])), (w_26, .inl (cI, 14, .inl (fun _ => 0))), (y_27, .inl (cI, 14, .inl (fun _ => 0))), (a_28, .inl (cI, 14, .inl (fun _ => 0)))] := hD
  refine W.widen (k := 16) (n := 273) (Nat.le_of_ble_eq_true rfl) (Nat.le_of_ble_eq_true rfl) ?_
  refine va_putF (D := D) (ci := 6) (v := .ref q_22) (ty := .object "CommonUnits$Acts") (C := RX8) (T := TX8) (N := 10) hx hb hg cu_iX8 tyX8 tyX8_ok nmX8 hown hK.1 hP hD hS 0 rfl rfl 3 (by decide) (hg _ k_182) (fun _ h9 => h9) rfl hin rfl (by decide +kernel) rfl rfl (Nat.le_of_ble_eq_true rfl) d_X8_init_45 (fun H locs hP hD hS => ?_)
  have hP : va_P D vwCl [(x, .inr (6, [.ref q_1, .ref q_6, .ref q_14, .ref q_22, .null, .null, .null, .null, .null, .long 0])), (q_1, .inr (5, [.ref w_5, .int 0])), (w_5, .inl (cI, 130, .inl (fun _ => 0))), (q_6, .inr (2, [.ref w_10, .ref y_11, .ref a_12, .ref u_13, .int 0, .int 0, .int 1, .int 0])), (w_10, .inl (cI, 12, .inl (fun _ => 0))), (y_11, .inl (cI, 12, .inl (fun _ => 0))), (a_12, .inl (cI, 12, .inl (fun _ => 0))), (u_13, .inl (cI, 3, .inl (fun _ => 0))), (q_14, .inr (2, [.ref w_18, .ref y_19, .ref a_20, .ref u_21, .int 0, .int 0, .int 1, .int 0])), (w_18, .inl (cI, 12, .inl (fun _ => 0))), (y_19, .inl (cI, 12, .inl (fun _ => 0))), (a_20, .inl (cI, 12, .inl (fun _ => 0))), (u_21, .inl (cI, 3, .inl (fun _ => 0))), (q_22, .inr (0, [.ref w_26, .ref y_27, .ref a_28, .int 0, .int 0])), (w_26, .inl (cI, 14, .inl (fun _ => 0))), (y_27, .inl (cI, 14, .inl (fun _ => 0))), (a_28, .inl (cI, 14, .inl (fun _ => 0)))] H := hP
  have hD : va_D A [(x, .inr (6, [.ref q_1, .ref q_6, .ref q_14, .ref q_22, .null, .null, .null, .null, .null, .long 0])), (q_1, .inr (5, [.ref w_5, .int 0])), (w_5, .inl (cI, 130, .inl (fun _ => 0))), (q_6, .inr (2, [.ref w_10, .ref y_11, .ref a_12, .ref u_13, .int 0, .int 0, .int 1, .int 0])), (w_10, .inl (cI, 12, .inl (fun _ => 0))), (y_11, .inl (cI, 12, .inl (fun _ => 0))), (a_12, .inl (cI, 12, .inl (fun _ => 0))), (u_13, .inl (cI, 3, .inl (fun _ => 0))), (q_14, .inr (2, [.ref w_18, .ref y_19, .ref a_20, .ref u_21, .int 0, .int 0, .int 1, .int 0])), (w_18, .inl (cI, 12, .inl (fun _ => 0))), (y_19, .inl (cI, 12, .inl (fun _ => 0))), (a_20, .inl (cI, 12, .inl (fun _ => 0))), (u_21, .inl (cI, 3, .inl (fun _ => 0))), (q_22, .inr (0, [.ref w_26, .ref y_27, .ref a_28, .int 0, .int 0])), (w_26, .inl (cI, 14, .inl (fun _ => 0))), (y_27, .inl (cI, 14, .inl (fun _ => 0))), (a_28, .inl (cI, 14, .inl (fun _ => 0)))] := hD
  refine lv_aload_n hx hb d_X8_init_48 rfl (lv_at hl 0 rfl) ?_
  refine va_new (ci := 1) (fs := [.null, .int 0, .int 0]) (C := RX1) (T := TX1) (N := 3) hx hb hg cu_iX1 tyX1 tyX1_ok hown (hg _ k_144) (hg _ k_145) (hg _ k_47) hK.1 hP hD hS hA rfl (fun j hj => by rcases (show j = 0 ∨ j = 1 ∨ j = 2 by omega) with rfl | rfl | rfl <;> rfl) (Nat.le_of_ble_eq_true rfl) (Nat.le_of_ble_eq_true rfl) d_X8_init_49 (fun q_29 H hP hD hS => ?_)
  have hP : va_P D vwCl [(x, .inr (6, [.ref q_1, .ref q_6, .ref q_14, .ref q_22, .null, .null, .null, .null, .null, .long 0])), (q_1, .inr (5, [.ref w_5, .int 0])), (w_5, .inl (cI, 130, .inl (fun _ => 0))), (q_6, .inr (2, [.ref w_10, .ref y_11, .ref a_12, .ref u_13, .int 0, .int 0, .int 1, .int 0])), (w_10, .inl (cI, 12, .inl (fun _ => 0))), (y_11, .inl (cI, 12, .inl (fun _ => 0))), (a_12, .inl (cI, 12, .inl (fun _ => 0))), (u_13, .inl (cI, 3, .inl (fun _ => 0))), (q_14, .inr (2, [.ref w_18, .ref y_19, .ref a_20, .ref u_21, .int 0, .int 0, .int 1, .int 0])), (w_18, .inl (cI, 12, .inl (fun _ => 0))), (y_19, .inl (cI, 12, .inl (fun _ => 0))), (a_20, .inl (cI, 12, .inl (fun _ => 0))), (u_21, .inl (cI, 3, .inl (fun _ => 0))), (q_22, .inr (0, [.ref w_26, .ref y_27, .ref a_28, .int 0, .int 0])), (w_26, .inl (cI, 14, .inl (fun _ => 0))), (y_27, .inl (cI, 14, .inl (fun _ => 0))), (a_28, .inl (cI, 14, .inl (fun _ => 0))), (q_29, .inr (1, [.null, .int 0, .int 0]))] H := hP
  have hD : va_D A [(x, .inr (6, [.ref q_1, .ref q_6, .ref q_14, .ref q_22, .null, .null, .null, .null, .null, .long 0])), (q_1, .inr (5, [.ref w_5, .int 0])), (w_5, .inl (cI, 130, .inl (fun _ => 0))), (q_6, .inr (2, [.ref w_10, .ref y_11, .ref a_12, .ref u_13, .int 0, .int 0, .int 1, .int 0])), (w_10, .inl (cI, 12, .inl (fun _ => 0))), (y_11, .inl (cI, 12, .inl (fun _ => 0))), (a_12, .inl (cI, 12, .inl (fun _ => 0))), (u_13, .inl (cI, 3, .inl (fun _ => 0))), (q_14, .inr (2, [.ref w_18, .ref y_19, .ref a_20, .ref u_21, .int 0, .int 0, .int 1, .int 0])), (w_18, .inl (cI, 12, .inl (fun _ => 0))), (y_19, .inl (cI, 12, .inl (fun _ => 0))), (a_20, .inl (cI, 12, .inl (fun _ => 0))), (u_21, .inl (cI, 3, .inl (fun _ => 0))), (q_22, .inr (0, [.ref w_26, .ref y_27, .ref a_28, .int 0, .int 0])), (w_26, .inl (cI, 14, .inl (fun _ => 0))), (y_27, .inl (cI, 14, .inl (fun _ => 0))), (a_28, .inl (cI, 14, .inl (fun _ => 0))), (q_29, .inr (1, [.null, .int 0, .int 0]))] := hD
  refine W.widen (k := 17) (n := 276) (Nat.le_of_ble_eq_true rfl) (Nat.le_of_ble_eq_true rfl) ?_
  refine lv_dup hx hb d_X8_init_52 rfl ?_
  refine cu_NV (wc := [(q_29, .inr (1, [.null, .int 0, .int 0]))]) (wr := [(x, .inr (6, [.ref q_1, .ref q_6, .ref q_14, .ref q_22, .null, .null, .null, .null, .null, .long 0])), (q_1, .inr (5, [.ref w_5, .int 0])), (w_5, .inl (cI, 130, .inl (fun _ => 0))), (q_6, .inr (2, [.ref w_10, .ref y_11, .ref a_12, .ref u_13, .int 0, .int 0, .int 1, .int 0])), (w_10, .inl (cI, 12, .inl (fun _ => 0))), (y_11, .inl (cI, 12, .inl (fun _ => 0))), (a_12, .inl (cI, 12, .inl (fun _ => 0))), (u_13, .inl (cI, 3, .inl (fun _ => 0))), (q_14, .inr (2, [.ref w_18, .ref y_19, .ref a_20, .ref u_21, .int 0, .int 0, .int 1, .int 0])), (w_18, .inl (cI, 12, .inl (fun _ => 0))), (y_19, .inl (cI, 12, .inl (fun _ => 0))), (a_20, .inl (cI, 12, .inl (fun _ => 0))), (u_21, .inl (cI, 3, .inl (fun _ => 0))), (q_22, .inr (0, [.ref w_26, .ref y_27, .ref a_28, .int 0, .int 0])), (w_26, .inl (cI, 14, .inl (fun _ => 0))), (y_27, .inl (cI, 14, .inl (fun _ => 0))), (a_28, .inl (cI, 14, .inl (fun _ => 0)))]) (rest := [.ref q_29, .ref x]) [] ⟨hx, hb, hml, hown, hg⟩ (c_X1_init l D cI cZ cQ q_29) hd_X1_init k_148 hK.2.2.2.2.2.1 k_147 k_47 rfl ⟨Nat.le_of_ble_eq_true rfl, Nat.le_of_ble_eq_true rfl⟩ ⟨Nat.le_of_ble_eq_true rfl, Nat.le_of_ble_eq_true rfl⟩ hP hD hS hA hK [17] [0, 1, 2, 3, 4, 5, 6, 7, 8, 9, 10, 11, 12, 13, 14, 15, 16] rfl rfl (by decide) (by decide) (by decide) rfl hl.1 rfl (Nat.le_of_ble_eq_true rfl) d_X8_init_53 (fun w_32 H locs hw_31 hP hD hS => ?_)
  obtain ⟨w_33, rfl⟩ := hw_31
  have hP : va_P D vwCl [(x, .inr (6, [.ref q_1, .ref q_6, .ref q_14, .ref q_22, .null, .null, .null, .null, .null, .long 0])), (q_1, .inr (5, [.ref w_5, .int 0])), (w_5, .inl (cI, 130, .inl (fun _ => 0))), (q_6, .inr (2, [.ref w_10, .ref y_11, .ref a_12, .ref u_13, .int 0, .int 0, .int 1, .int 0])), (w_10, .inl (cI, 12, .inl (fun _ => 0))), (y_11, .inl (cI, 12, .inl (fun _ => 0))), (a_12, .inl (cI, 12, .inl (fun _ => 0))), (u_13, .inl (cI, 3, .inl (fun _ => 0))), (q_14, .inr (2, [.ref w_18, .ref y_19, .ref a_20, .ref u_21, .int 0, .int 0, .int 1, .int 0])), (w_18, .inl (cI, 12, .inl (fun _ => 0))), (y_19, .inl (cI, 12, .inl (fun _ => 0))), (a_20, .inl (cI, 12, .inl (fun _ => 0))), (u_21, .inl (cI, 3, .inl (fun _ => 0))), (q_22, .inr (0, [.ref w_26, .ref y_27, .ref a_28, .int 0, .int 0])), (w_26, .inl (cI, 14, .inl (fun _ => 0))), (y_27, .inl (cI, 14, .inl (fun _ => 0))), (a_28, .inl (cI, 14, .inl (fun _ => 0))), (q_29, .inr (1, [.ref w_33, .int 0, .int 0])), (w_33, .inl (cI, 256, .inl (fun _ => 0)))] H := hP
  have hD : va_D A [(x, .inr (6, [.ref q_1, .ref q_6, .ref q_14, .ref q_22, .null, .null, .null, .null, .null, .long 0])), (q_1, .inr (5, [.ref w_5, .int 0])), (w_5, .inl (cI, 130, .inl (fun _ => 0))), (q_6, .inr (2, [.ref w_10, .ref y_11, .ref a_12, .ref u_13, .int 0, .int 0, .int 1, .int 0])), (w_10, .inl (cI, 12, .inl (fun _ => 0))), (y_11, .inl (cI, 12, .inl (fun _ => 0))), (a_12, .inl (cI, 12, .inl (fun _ => 0))), (u_13, .inl (cI, 3, .inl (fun _ => 0))), (q_14, .inr (2, [.ref w_18, .ref y_19, .ref a_20, .ref u_21, .int 0, .int 0, .int 1, .int 0])), (w_18, .inl (cI, 12, .inl (fun _ => 0))), (y_19, .inl (cI, 12, .inl (fun _ => 0))), (a_20, .inl (cI, 12, .inl (fun _ => 0))), (u_21, .inl (cI, 3, .inl (fun _ => 0))), (q_22, .inr (0, [.ref w_26, .ref y_27, .ref a_28, .int 0, .int 0])), (w_26, .inl (cI, 14, .inl (fun _ => 0))), (y_27, .inl (cI, 14, .inl (fun _ => 0))), (a_28, .inl (cI, 14, .inl (fun _ => 0))), (q_29, .inr (1, [.ref w_33, .int 0, .int 0])), (w_33, .inl (cI, 256, .inl (fun _ => 0)))] := hD
  refine W.widen (k := 18) (n := 532) (Nat.le_of_ble_eq_true rfl) (Nat.le_of_ble_eq_true rfl) ?_
  refine va_putF (D := D) (ci := 6) (v := .ref q_29) (ty := .object "CommonUnits$Crowd") (C := RX8) (T := TX8) (N := 10) hx hb hg cu_iX8 tyX8 tyX8_ok nmX8 hown hK.1 hP hD hS 0 rfl rfl 4 (by decide) (hg _ k_183) (fun _ h9 => h9) rfl hin rfl (by decide +kernel) rfl rfl (Nat.le_of_ble_eq_true rfl) d_X8_init_56 (fun H locs hP hD hS => ?_)
  have hP : va_P D vwCl [(x, .inr (6, [.ref q_1, .ref q_6, .ref q_14, .ref q_22, .ref q_29, .null, .null, .null, .null, .long 0])), (q_1, .inr (5, [.ref w_5, .int 0])), (w_5, .inl (cI, 130, .inl (fun _ => 0))), (q_6, .inr (2, [.ref w_10, .ref y_11, .ref a_12, .ref u_13, .int 0, .int 0, .int 1, .int 0])), (w_10, .inl (cI, 12, .inl (fun _ => 0))), (y_11, .inl (cI, 12, .inl (fun _ => 0))), (a_12, .inl (cI, 12, .inl (fun _ => 0))), (u_13, .inl (cI, 3, .inl (fun _ => 0))), (q_14, .inr (2, [.ref w_18, .ref y_19, .ref a_20, .ref u_21, .int 0, .int 0, .int 1, .int 0])), (w_18, .inl (cI, 12, .inl (fun _ => 0))), (y_19, .inl (cI, 12, .inl (fun _ => 0))), (a_20, .inl (cI, 12, .inl (fun _ => 0))), (u_21, .inl (cI, 3, .inl (fun _ => 0))), (q_22, .inr (0, [.ref w_26, .ref y_27, .ref a_28, .int 0, .int 0])), (w_26, .inl (cI, 14, .inl (fun _ => 0))), (y_27, .inl (cI, 14, .inl (fun _ => 0))), (a_28, .inl (cI, 14, .inl (fun _ => 0))), (q_29, .inr (1, [.ref w_33, .int 0, .int 0])), (w_33, .inl (cI, 256, .inl (fun _ => 0)))] H := hP
  have hD : va_D A [(x, .inr (6, [.ref q_1, .ref q_6, .ref q_14, .ref q_22, .ref q_29, .null, .null, .null, .null, .long 0])), (q_1, .inr (5, [.ref w_5, .int 0])), (w_5, .inl (cI, 130, .inl (fun _ => 0))), (q_6, .inr (2, [.ref w_10, .ref y_11, .ref a_12, .ref u_13, .int 0, .int 0, .int 1, .int 0])), (w_10, .inl (cI, 12, .inl (fun _ => 0))), (y_11, .inl (cI, 12, .inl (fun _ => 0))), (a_12, .inl (cI, 12, .inl (fun _ => 0))), (u_13, .inl (cI, 3, .inl (fun _ => 0))), (q_14, .inr (2, [.ref w_18, .ref y_19, .ref a_20, .ref u_21, .int 0, .int 0, .int 1, .int 0])), (w_18, .inl (cI, 12, .inl (fun _ => 0))), (y_19, .inl (cI, 12, .inl (fun _ => 0))), (a_20, .inl (cI, 12, .inl (fun _ => 0))), (u_21, .inl (cI, 3, .inl (fun _ => 0))), (q_22, .inr (0, [.ref w_26, .ref y_27, .ref a_28, .int 0, .int 0])), (w_26, .inl (cI, 14, .inl (fun _ => 0))), (y_27, .inl (cI, 14, .inl (fun _ => 0))), (a_28, .inl (cI, 14, .inl (fun _ => 0))), (q_29, .inr (1, [.ref w_33, .int 0, .int 0])), (w_33, .inl (cI, 256, .inl (fun _ => 0)))] := hD
  refine lv_aload_n hx hb d_X8_init_59 rfl (lv_at hl 0 rfl) ?_
  refine va_new (ci := 3) (fs := [.null, .null, .int 0]) (C := RX4) (T := TX4) (N := 3) hx hb hg cu_iX4 tyX4 tyX4_ok hown (hg _ k_160) (hg _ k_161) (hg _ k_48) hK.1 hP hD hS hA rfl (fun j hj => by rcases (show j = 0 ∨ j = 1 ∨ j = 2 by omega) with rfl | rfl | rfl <;> rfl) (Nat.le_of_ble_eq_true rfl) (Nat.le_of_ble_eq_true rfl) d_X8_init_60 (fun q_34 H hP hD hS => ?_)
  have hP : va_P D vwCl [(x, .inr (6, [.ref q_1, .ref q_6, .ref q_14, .ref q_22, .ref q_29, .null, .null, .null, .null, .long 0])), (q_1, .inr (5, [.ref w_5, .int 0])), (w_5, .inl (cI, 130, .inl (fun _ => 0))), (q_6, .inr (2, [.ref w_10, .ref y_11, .ref a_12, .ref u_13, .int 0, .int 0, .int 1, .int 0])), (w_10, .inl (cI, 12, .inl (fun _ => 0))), (y_11, .inl (cI, 12, .inl (fun _ => 0))), (a_12, .inl (cI, 12, .inl (fun _ => 0))), (u_13, .inl (cI, 3, .inl (fun _ => 0))), (q_14, .inr (2, [.ref w_18, .ref y_19, .ref a_20, .ref u_21, .int 0, .int 0, .int 1, .int 0])), (w_18, .inl (cI, 12, .inl (fun _ => 0))), (y_19, .inl (cI, 12, .inl (fun _ => 0))), (a_20, .inl (cI, 12, .inl (fun _ => 0))), (u_21, .inl (cI, 3, .inl (fun _ => 0))), (q_22, .inr (0, [.ref w_26, .ref y_27, .ref a_28, .int 0, .int 0])), (w_26, .inl (cI, 14, .inl (fun _ => 0))), (y_27, .inl (cI, 14, .inl (fun _ => 0))), (a_28, .inl (cI, 14, .inl (fun _ => 0))), (q_29, .inr (1, [.ref w_33, .int 0, .int 0])), (w_33, .inl (cI, 256, .inl (fun _ => 0))), (q_34, .inr (3, [.null, .null, .int 0]))] H := hP
  have hD : va_D A [(x, .inr (6, [.ref q_1, .ref q_6, .ref q_14, .ref q_22, .ref q_29, .null, .null, .null, .null, .long 0])), (q_1, .inr (5, [.ref w_5, .int 0])), (w_5, .inl (cI, 130, .inl (fun _ => 0))), (q_6, .inr (2, [.ref w_10, .ref y_11, .ref a_12, .ref u_13, .int 0, .int 0, .int 1, .int 0])), (w_10, .inl (cI, 12, .inl (fun _ => 0))), (y_11, .inl (cI, 12, .inl (fun _ => 0))), (a_12, .inl (cI, 12, .inl (fun _ => 0))), (u_13, .inl (cI, 3, .inl (fun _ => 0))), (q_14, .inr (2, [.ref w_18, .ref y_19, .ref a_20, .ref u_21, .int 0, .int 0, .int 1, .int 0])), (w_18, .inl (cI, 12, .inl (fun _ => 0))), (y_19, .inl (cI, 12, .inl (fun _ => 0))), (a_20, .inl (cI, 12, .inl (fun _ => 0))), (u_21, .inl (cI, 3, .inl (fun _ => 0))), (q_22, .inr (0, [.ref w_26, .ref y_27, .ref a_28, .int 0, .int 0])), (w_26, .inl (cI, 14, .inl (fun _ => 0))), (y_27, .inl (cI, 14, .inl (fun _ => 0))), (a_28, .inl (cI, 14, .inl (fun _ => 0))), (q_29, .inr (1, [.ref w_33, .int 0, .int 0])), (w_33, .inl (cI, 256, .inl (fun _ => 0))), (q_34, .inr (3, [.null, .null, .int 0]))] := hD
  refine W.widen (k := 19) (n := 535) (Nat.le_of_ble_eq_true rfl) (Nat.le_of_ble_eq_true rfl) ?_
  refine lv_dup hx hb d_X8_init_63 rfl ?_
  refine cu_NV (wc := [(q_34, .inr (3, [.null, .null, .int 0]))]) (wr := [(x, .inr (6, [.ref q_1, .ref q_6, .ref q_14, .ref q_22, .ref q_29, .null, .null, .null, .null, .long 0])), (q_1, .inr (5, [.ref w_5, .int 0])), (w_5, .inl (cI, 130, .inl (fun _ => 0))), (q_6, .inr (2, [.ref w_10, .ref y_11, .ref a_12, .ref u_13, .int 0, .int 0, .int 1, .int 0])), (w_10, .inl (cI, 12, .inl (fun _ => 0))), (y_11, .inl (cI, 12, .inl (fun _ => 0))), (a_12, .inl (cI, 12, .inl (fun _ => 0))), (u_13, .inl (cI, 3, .inl (fun _ => 0))), (q_14, .inr (2, [.ref w_18, .ref y_19, .ref a_20, .ref u_21, .int 0, .int 0, .int 1, .int 0])), (w_18, .inl (cI, 12, .inl (fun _ => 0))), (y_19, .inl (cI, 12, .inl (fun _ => 0))), (a_20, .inl (cI, 12, .inl (fun _ => 0))), (u_21, .inl (cI, 3, .inl (fun _ => 0))), (q_22, .inr (0, [.ref w_26, .ref y_27, .ref a_28, .int 0, .int 0])), (w_26, .inl (cI, 14, .inl (fun _ => 0))), (y_27, .inl (cI, 14, .inl (fun _ => 0))), (a_28, .inl (cI, 14, .inl (fun _ => 0))), (q_29, .inr (1, [.ref w_33, .int 0, .int 0])), (w_33, .inl (cI, 256, .inl (fun _ => 0)))]) (rest := [.ref q_34, .ref x]) [] ⟨hx, hb, hml, hown, hg⟩ (c_X4_init l D cI cZ cQ q_34) hd_X4_init k_164 hK.2.2.2.2.2.2.1 k_163 k_48 rfl ⟨Nat.le_of_ble_eq_true rfl, Nat.le_of_ble_eq_true rfl⟩ ⟨Nat.le_of_ble_eq_true rfl, Nat.le_of_ble_eq_true rfl⟩ hP hD hS hA hK [19] [0, 1, 2, 3, 4, 5, 6, 7, 8, 9, 10, 11, 12, 13, 14, 15, 16, 17, 18] rfl rfl (by decide) (by decide) (by decide) rfl hl.1 rfl (Nat.le_of_ble_eq_true rfl) d_X8_init_64 (fun w_37 H locs hw_36 hP hD hS => ?_)
  obtain ⟨w_38, y_39, rfl⟩ := hw_36
  have hP : va_P D vwCl [(x, .inr (6, [.ref q_1, .ref q_6, .ref q_14, .ref q_22, .ref q_29, .null, .null, .null, .null, .long 0])), (q_1, .inr (5, [.ref w_5, .int 0])), (w_5, .inl (cI, 130, .inl (fun _ => 0))), (q_6, .inr (2, [.ref w_10, .ref y_11, .ref a_12, .ref u_13, .int 0, .int 0, .int 1, .int 0])), (w_10, .inl (cI, 12, .inl (fun _ => 0))), (y_11, .inl (cI, 12, .inl (fun _ => 0))), (a_12, .inl (cI, 12, .inl (fun _ => 0))), (u_13, .inl (cI, 3, .inl (fun _ => 0))), (q_14, .inr (2, [.ref w_18, .ref y_19, .ref a_20, .ref u_21, .int 0, .int 0, .int 1, .int 0])), (w_18, .inl (cI, 12, .inl (fun _ => 0))), (y_19, .inl (cI, 12, .inl (fun _ => 0))), (a_20, .inl (cI, 12, .inl (fun _ => 0))), (u_21, .inl (cI, 3, .inl (fun _ => 0))), (q_22, .inr (0, [.ref w_26, .ref y_27, .ref a_28, .int 0, .int 0])), (w_26, .inl (cI, 14, .inl (fun _ => 0))), (y_27, .inl (cI, 14, .inl (fun _ => 0))), (a_28, .inl (cI, 14, .inl (fun _ => 0))), (q_29, .inr (1, [.ref w_33, .int 0, .int 0])), (w_33, .inl (cI, 256, .inl (fun _ => 0))), (q_34, .inr (3, [.ref w_38, .ref y_39, .int 0]))] H := hP
  have hD : va_D A [(x, .inr (6, [.ref q_1, .ref q_6, .ref q_14, .ref q_22, .ref q_29, .null, .null, .null, .null, .long 0])), (q_1, .inr (5, [.ref w_5, .int 0])), (w_5, .inl (cI, 130, .inl (fun _ => 0))), (q_6, .inr (2, [.ref w_10, .ref y_11, .ref a_12, .ref u_13, .int 0, .int 0, .int 1, .int 0])), (w_10, .inl (cI, 12, .inl (fun _ => 0))), (y_11, .inl (cI, 12, .inl (fun _ => 0))), (a_12, .inl (cI, 12, .inl (fun _ => 0))), (u_13, .inl (cI, 3, .inl (fun _ => 0))), (q_14, .inr (2, [.ref w_18, .ref y_19, .ref a_20, .ref u_21, .int 0, .int 0, .int 1, .int 0])), (w_18, .inl (cI, 12, .inl (fun _ => 0))), (y_19, .inl (cI, 12, .inl (fun _ => 0))), (a_20, .inl (cI, 12, .inl (fun _ => 0))), (u_21, .inl (cI, 3, .inl (fun _ => 0))), (q_22, .inr (0, [.ref w_26, .ref y_27, .ref a_28, .int 0, .int 0])), (w_26, .inl (cI, 14, .inl (fun _ => 0))), (y_27, .inl (cI, 14, .inl (fun _ => 0))), (a_28, .inl (cI, 14, .inl (fun _ => 0))), (q_29, .inr (1, [.ref w_33, .int 0, .int 0])), (w_33, .inl (cI, 256, .inl (fun _ => 0))), (q_34, .inr (3, [.ref w_38, .ref y_39, .int 0]))] := hD
  refine W.widen (k := 21) (n := 547) (Nat.le_of_ble_eq_true rfl) (Nat.le_of_ble_eq_true rfl) ?_
  refine va_putF (D := D) (ci := 6) (v := .ref q_34) (ty := .object "CommonUnits$Sightings") (C := RX8) (T := TX8) (N := 10) hx hb hg cu_iX8 tyX8 tyX8_ok nmX8 hown hK.1 hP hD hS 0 rfl rfl 5 (by decide) (hg _ k_184) (fun _ h9 => h9) rfl hin rfl (by decide +kernel) rfl rfl (Nat.le_of_ble_eq_true rfl) d_X8_init_67 (fun H locs hP hD hS => ?_)
  have hP : va_P D vwCl [(x, .inr (6, [.ref q_1, .ref q_6, .ref q_14, .ref q_22, .ref q_29, .ref q_34, .null, .null, .null, .long 0])), (q_1, .inr (5, [.ref w_5, .int 0])), (w_5, .inl (cI, 130, .inl (fun _ => 0))), (q_6, .inr (2, [.ref w_10, .ref y_11, .ref a_12, .ref u_13, .int 0, .int 0, .int 1, .int 0])), (w_10, .inl (cI, 12, .inl (fun _ => 0))), (y_11, .inl (cI, 12, .inl (fun _ => 0))), (a_12, .inl (cI, 12, .inl (fun _ => 0))), (u_13, .inl (cI, 3, .inl (fun _ => 0))), (q_14, .inr (2, [.ref w_18, .ref y_19, .ref a_20, .ref u_21, .int 0, .int 0, .int 1, .int 0])), (w_18, .inl (cI, 12, .inl (fun _ => 0))), (y_19, .inl (cI, 12, .inl (fun _ => 0))), (a_20, .inl (cI, 12, .inl (fun _ => 0))), (u_21, .inl (cI, 3, .inl (fun _ => 0))), (q_22, .inr (0, [.ref w_26, .ref y_27, .ref a_28, .int 0, .int 0])), (w_26, .inl (cI, 14, .inl (fun _ => 0))), (y_27, .inl (cI, 14, .inl (fun _ => 0))), (a_28, .inl (cI, 14, .inl (fun _ => 0))), (q_29, .inr (1, [.ref w_33, .int 0, .int 0])), (w_33, .inl (cI, 256, .inl (fun _ => 0))), (q_34, .inr (3, [.ref w_38, .ref y_39, .int 0]))] H := hP
  have hD : va_D A [(x, .inr (6, [.ref q_1, .ref q_6, .ref q_14, .ref q_22, .ref q_29, .ref q_34, .null, .null, .null, .long 0])), (q_1, .inr (5, [.ref w_5, .int 0])), (w_5, .inl (cI, 130, .inl (fun _ => 0))), (q_6, .inr (2, [.ref w_10, .ref y_11, .ref a_12, .ref u_13, .int 0, .int 0, .int 1, .int 0])), (w_10, .inl (cI, 12, .inl (fun _ => 0))), (y_11, .inl (cI, 12, .inl (fun _ => 0))), (a_12, .inl (cI, 12, .inl (fun _ => 0))), (u_13, .inl (cI, 3, .inl (fun _ => 0))), (q_14, .inr (2, [.ref w_18, .ref y_19, .ref a_20, .ref u_21, .int 0, .int 0, .int 1, .int 0])), (w_18, .inl (cI, 12, .inl (fun _ => 0))), (y_19, .inl (cI, 12, .inl (fun _ => 0))), (a_20, .inl (cI, 12, .inl (fun _ => 0))), (u_21, .inl (cI, 3, .inl (fun _ => 0))), (q_22, .inr (0, [.ref w_26, .ref y_27, .ref a_28, .int 0, .int 0])), (w_26, .inl (cI, 14, .inl (fun _ => 0))), (y_27, .inl (cI, 14, .inl (fun _ => 0))), (a_28, .inl (cI, 14, .inl (fun _ => 0))), (q_29, .inr (1, [.ref w_33, .int 0, .int 0])), (w_33, .inl (cI, 256, .inl (fun _ => 0))), (q_34, .inr (3, [.ref w_38, .ref y_39, .int 0]))] := hD
  refine lv_aload_n hx hb d_X8_init_70 rfl (lv_at hl 0 rfl) ?_
  refine lv_iconst (v := 2) hx hb d_X8_init_71 (by decide) ?_
  refine cu_newH 2 hx hb hown (hg _ k_78) hK hP hD hS hA (by decide) (by decide +kernel) (Nat.le_of_ble_eq_true rfl) (Nat.le_of_ble_eq_true rfl) (Nat.le_of_ble_eq_true rfl) d_X8_init_72 (fun q_40 H hP hD hS => ?_)
  have hP : va_P D vwCl [(x, .inr (6, [.ref q_1, .ref q_6, .ref q_14, .ref q_22, .ref q_29, .ref q_34, .null, .null, .null, .long 0])), (q_1, .inr (5, [.ref w_5, .int 0])), (w_5, .inl (cI, 130, .inl (fun _ => 0))), (q_6, .inr (2, [.ref w_10, .ref y_11, .ref a_12, .ref u_13, .int 0, .int 0, .int 1, .int 0])), (w_10, .inl (cI, 12, .inl (fun _ => 0))), (y_11, .inl (cI, 12, .inl (fun _ => 0))), (a_12, .inl (cI, 12, .inl (fun _ => 0))), (u_13, .inl (cI, 3, .inl (fun _ => 0))), (q_14, .inr (2, [.ref w_18, .ref y_19, .ref a_20, .ref u_21, .int 0, .int 0, .int 1, .int 0])), (w_18, .inl (cI, 12, .inl (fun _ => 0))), (y_19, .inl (cI, 12, .inl (fun _ => 0))), (a_20, .inl (cI, 12, .inl (fun _ => 0))), (u_21, .inl (cI, 3, .inl (fun _ => 0))), (q_22, .inr (0, [.ref w_26, .ref y_27, .ref a_28, .int 0, .int 0])), (w_26, .inl (cI, 14, .inl (fun _ => 0))), (y_27, .inl (cI, 14, .inl (fun _ => 0))), (a_28, .inl (cI, 14, .inl (fun _ => 0))), (q_29, .inr (1, [.ref w_33, .int 0, .int 0])), (w_33, .inl (cI, 256, .inl (fun _ => 0))), (q_34, .inr (3, [.ref w_38, .ref y_39, .int 0])), (q_40, .inl (cQ, 2, .inr (.inr (.inr (.inr (fun _ => none))))))] H := hP
  have hD : va_D A [(x, .inr (6, [.ref q_1, .ref q_6, .ref q_14, .ref q_22, .ref q_29, .ref q_34, .null, .null, .null, .long 0])), (q_1, .inr (5, [.ref w_5, .int 0])), (w_5, .inl (cI, 130, .inl (fun _ => 0))), (q_6, .inr (2, [.ref w_10, .ref y_11, .ref a_12, .ref u_13, .int 0, .int 0, .int 1, .int 0])), (w_10, .inl (cI, 12, .inl (fun _ => 0))), (y_11, .inl (cI, 12, .inl (fun _ => 0))), (a_12, .inl (cI, 12, .inl (fun _ => 0))), (u_13, .inl (cI, 3, .inl (fun _ => 0))), (q_14, .inr (2, [.ref w_18, .ref y_19, .ref a_20, .ref u_21, .int 0, .int 0, .int 1, .int 0])), (w_18, .inl (cI, 12, .inl (fun _ => 0))), (y_19, .inl (cI, 12, .inl (fun _ => 0))), (a_20, .inl (cI, 12, .inl (fun _ => 0))), (u_21, .inl (cI, 3, .inl (fun _ => 0))), (q_22, .inr (0, [.ref w_26, .ref y_27, .ref a_28, .int 0, .int 0])), (w_26, .inl (cI, 14, .inl (fun _ => 0))), (y_27, .inl (cI, 14, .inl (fun _ => 0))), (a_28, .inl (cI, 14, .inl (fun _ => 0))), (q_29, .inr (1, [.ref w_33, .int 0, .int 0])), (w_33, .inl (cI, 256, .inl (fun _ => 0))), (q_34, .inr (3, [.ref w_38, .ref y_39, .int 0])), (q_40, .inl (cQ, 2, .inr (.inr (.inr (.inr (fun _ => none))))))] := hD
  refine W.widen (k := 22) (n := 549) (Nat.le_of_ble_eq_true rfl) (Nat.le_of_ble_eq_true rfl) ?_
  refine va_putF (D := D) (ci := 6) (v := .ref q_40) (ty := .array (.object "CommonUnits$Hoard")) (C := RX8) (T := TX8) (N := 10) hx hb hg cu_iX8 tyX8 tyX8_ok nmX8 hown hK.1 hP hD hS 0 rfl rfl 6 (by decide) (hg _ k_185) (fun _ h9 => h9) rfl hin rfl (by decide +kernel) rfl rfl (Nat.le_of_ble_eq_true rfl) d_X8_init_75 (fun H locs hP hD hS => ?_)
  have hP : va_P D vwCl [(x, .inr (6, [.ref q_1, .ref q_6, .ref q_14, .ref q_22, .ref q_29, .ref q_34, .ref q_40, .null, .null, .long 0])), (q_1, .inr (5, [.ref w_5, .int 0])), (w_5, .inl (cI, 130, .inl (fun _ => 0))), (q_6, .inr (2, [.ref w_10, .ref y_11, .ref a_12, .ref u_13, .int 0, .int 0, .int 1, .int 0])), (w_10, .inl (cI, 12, .inl (fun _ => 0))), (y_11, .inl (cI, 12, .inl (fun _ => 0))), (a_12, .inl (cI, 12, .inl (fun _ => 0))), (u_13, .inl (cI, 3, .inl (fun _ => 0))), (q_14, .inr (2, [.ref w_18, .ref y_19, .ref a_20, .ref u_21, .int 0, .int 0, .int 1, .int 0])), (w_18, .inl (cI, 12, .inl (fun _ => 0))), (y_19, .inl (cI, 12, .inl (fun _ => 0))), (a_20, .inl (cI, 12, .inl (fun _ => 0))), (u_21, .inl (cI, 3, .inl (fun _ => 0))), (q_22, .inr (0, [.ref w_26, .ref y_27, .ref a_28, .int 0, .int 0])), (w_26, .inl (cI, 14, .inl (fun _ => 0))), (y_27, .inl (cI, 14, .inl (fun _ => 0))), (a_28, .inl (cI, 14, .inl (fun _ => 0))), (q_29, .inr (1, [.ref w_33, .int 0, .int 0])), (w_33, .inl (cI, 256, .inl (fun _ => 0))), (q_34, .inr (3, [.ref w_38, .ref y_39, .int 0])), (q_40, .inl (cQ, 2, .inr (.inr (.inr (.inr (fun _ => none))))))] H := hP
  have hD : va_D A [(x, .inr (6, [.ref q_1, .ref q_6, .ref q_14, .ref q_22, .ref q_29, .ref q_34, .ref q_40, .null, .null, .long 0])), (q_1, .inr (5, [.ref w_5, .int 0])), (w_5, .inl (cI, 130, .inl (fun _ => 0))), (q_6, .inr (2, [.ref w_10, .ref y_11, .ref a_12, .ref u_13, .int 0, .int 0, .int 1, .int 0])), (w_10, .inl (cI, 12, .inl (fun _ => 0))), (y_11, .inl (cI, 12, .inl (fun _ => 0))), (a_12, .inl (cI, 12, .inl (fun _ => 0))), (u_13, .inl (cI, 3, .inl (fun _ => 0))), (q_14, .inr (2, [.ref w_18, .ref y_19, .ref a_20, .ref u_21, .int 0, .int 0, .int 1, .int 0])), (w_18, .inl (cI, 12, .inl (fun _ => 0))), (y_19, .inl (cI, 12, .inl (fun _ => 0))), (a_20, .inl (cI, 12, .inl (fun _ => 0))), (u_21, .inl (cI, 3, .inl (fun _ => 0))), (q_22, .inr (0, [.ref w_26, .ref y_27, .ref a_28, .int 0, .int 0])), (w_26, .inl (cI, 14, .inl (fun _ => 0))), (y_27, .inl (cI, 14, .inl (fun _ => 0))), (a_28, .inl (cI, 14, .inl (fun _ => 0))), (q_29, .inr (1, [.ref w_33, .int 0, .int 0])), (w_33, .inl (cI, 256, .inl (fun _ => 0))), (q_34, .inr (3, [.ref w_38, .ref y_39, .int 0])), (q_40, .inl (cQ, 2, .inr (.inr (.inr (.inr (fun _ => none))))))] := hD
  refine lv_aload_n hx hb d_X8_init_78 rfl (lv_at hl 0 rfl) ?_
  refine lv_iconst (v := 2) hx hb d_X8_init_79 (by decide) ?_
  refine cu_newZ 2 hx hb (hg _ k_177) hK hP hD hS hA (by decide) (by decide +kernel) (Nat.le_of_ble_eq_true rfl) (Nat.le_of_ble_eq_true rfl) (Nat.le_of_ble_eq_true rfl) d_X8_init_80 (fun q_41 H hP hD hS => ?_)
  have hP : va_P D vwCl [(x, .inr (6, [.ref q_1, .ref q_6, .ref q_14, .ref q_22, .ref q_29, .ref q_34, .ref q_40, .null, .null, .long 0])), (q_1, .inr (5, [.ref w_5, .int 0])), (w_5, .inl (cI, 130, .inl (fun _ => 0))), (q_6, .inr (2, [.ref w_10, .ref y_11, .ref a_12, .ref u_13, .int 0, .int 0, .int 1, .int 0])), (w_10, .inl (cI, 12, .inl (fun _ => 0))), (y_11, .inl (cI, 12, .inl (fun _ => 0))), (a_12, .inl (cI, 12, .inl (fun _ => 0))), (u_13, .inl (cI, 3, .inl (fun _ => 0))), (q_14, .inr (2, [.ref w_18, .ref y_19, .ref a_20, .ref u_21, .int 0, .int 0, .int 1, .int 0])), (w_18, .inl (cI, 12, .inl (fun _ => 0))), (y_19, .inl (cI, 12, .inl (fun _ => 0))), (a_20, .inl (cI, 12, .inl (fun _ => 0))), (u_21, .inl (cI, 3, .inl (fun _ => 0))), (q_22, .inr (0, [.ref w_26, .ref y_27, .ref a_28, .int 0, .int 0])), (w_26, .inl (cI, 14, .inl (fun _ => 0))), (y_27, .inl (cI, 14, .inl (fun _ => 0))), (a_28, .inl (cI, 14, .inl (fun _ => 0))), (q_29, .inr (1, [.ref w_33, .int 0, .int 0])), (w_33, .inl (cI, 256, .inl (fun _ => 0))), (q_34, .inr (3, [.ref w_38, .ref y_39, .int 0])), (q_40, .inl (cQ, 2, .inr (.inr (.inr (.inr (fun _ => none)))))), (q_41, .inl (cZ, 2, .inl (fun _ => 0)))] H := hP
  have hD : va_D A [(x, .inr (6, [.ref q_1, .ref q_6, .ref q_14, .ref q_22, .ref q_29, .ref q_34, .ref q_40, .null, .null, .long 0])), (q_1, .inr (5, [.ref w_5, .int 0])), (w_5, .inl (cI, 130, .inl (fun _ => 0))), (q_6, .inr (2, [.ref w_10, .ref y_11, .ref a_12, .ref u_13, .int 0, .int 0, .int 1, .int 0])), (w_10, .inl (cI, 12, .inl (fun _ => 0))), (y_11, .inl (cI, 12, .inl (fun _ => 0))), (a_12, .inl (cI, 12, .inl (fun _ => 0))), (u_13, .inl (cI, 3, .inl (fun _ => 0))), (q_14, .inr (2, [.ref w_18, .ref y_19, .ref a_20, .ref u_21, .int 0, .int 0, .int 1, .int 0])), (w_18, .inl (cI, 12, .inl (fun _ => 0))), (y_19, .inl (cI, 12, .inl (fun _ => 0))), (a_20, .inl (cI, 12, .inl (fun _ => 0))), (u_21, .inl (cI, 3, .inl (fun _ => 0))), (q_22, .inr (0, [.ref w_26, .ref y_27, .ref a_28, .int 0, .int 0])), (w_26, .inl (cI, 14, .inl (fun _ => 0))), (y_27, .inl (cI, 14, .inl (fun _ => 0))), (a_28, .inl (cI, 14, .inl (fun _ => 0))), (q_29, .inr (1, [.ref w_33, .int 0, .int 0])), (w_33, .inl (cI, 256, .inl (fun _ => 0))), (q_34, .inr (3, [.ref w_38, .ref y_39, .int 0])), (q_40, .inl (cQ, 2, .inr (.inr (.inr (.inr (fun _ => none)))))), (q_41, .inl (cZ, 2, .inl (fun _ => 0)))] := hD
  refine W.widen (k := 23) (n := 551) (Nat.le_of_ble_eq_true rfl) (Nat.le_of_ble_eq_true rfl) ?_
  refine va_putF (D := D) (ci := 6) (v := .ref q_41) (ty := .array .boolean) (C := RX8) (T := TX8) (N := 10) hx hb hg cu_iX8 tyX8 tyX8_ok nmX8 hown hK.1 hP hD hS 0 rfl rfl 7 (by decide) (hg _ k_186) (fun _ h9 => h9) rfl hin rfl (by decide +kernel) rfl rfl (Nat.le_of_ble_eq_true rfl) d_X8_init_82 (fun H locs hP hD hS => ?_)
  have hP : va_P D vwCl [(x, .inr (6, [.ref q_1, .ref q_6, .ref q_14, .ref q_22, .ref q_29, .ref q_34, .ref q_40, .ref q_41, .null, .long 0])), (q_1, .inr (5, [.ref w_5, .int 0])), (w_5, .inl (cI, 130, .inl (fun _ => 0))), (q_6, .inr (2, [.ref w_10, .ref y_11, .ref a_12, .ref u_13, .int 0, .int 0, .int 1, .int 0])), (w_10, .inl (cI, 12, .inl (fun _ => 0))), (y_11, .inl (cI, 12, .inl (fun _ => 0))), (a_12, .inl (cI, 12, .inl (fun _ => 0))), (u_13, .inl (cI, 3, .inl (fun _ => 0))), (q_14, .inr (2, [.ref w_18, .ref y_19, .ref a_20, .ref u_21, .int 0, .int 0, .int 1, .int 0])), (w_18, .inl (cI, 12, .inl (fun _ => 0))), (y_19, .inl (cI, 12, .inl (fun _ => 0))), (a_20, .inl (cI, 12, .inl (fun _ => 0))), (u_21, .inl (cI, 3, .inl (fun _ => 0))), (q_22, .inr (0, [.ref w_26, .ref y_27, .ref a_28, .int 0, .int 0])), (w_26, .inl (cI, 14, .inl (fun _ => 0))), (y_27, .inl (cI, 14, .inl (fun _ => 0))), (a_28, .inl (cI, 14, .inl (fun _ => 0))), (q_29, .inr (1, [.ref w_33, .int 0, .int 0])), (w_33, .inl (cI, 256, .inl (fun _ => 0))), (q_34, .inr (3, [.ref w_38, .ref y_39, .int 0])), (q_40, .inl (cQ, 2, .inr (.inr (.inr (.inr (fun _ => none)))))), (q_41, .inl (cZ, 2, .inl (fun _ => 0)))] H := hP
  have hD : va_D A [(x, .inr (6, [.ref q_1, .ref q_6, .ref q_14, .ref q_22, .ref q_29, .ref q_34, .ref q_40, .ref q_41, .null, .long 0])), (q_1, .inr (5, [.ref w_5, .int 0])), (w_5, .inl (cI, 130, .inl (fun _ => 0))), (q_6, .inr (2, [.ref w_10, .ref y_11, .ref a_12, .ref u_13, .int 0, .int 0, .int 1, .int 0])), (w_10, .inl (cI, 12, .inl (fun _ => 0))), (y_11, .inl (cI, 12, .inl (fun _ => 0))), (a_12, .inl (cI, 12, .inl (fun _ => 0))), (u_13, .inl (cI, 3, .inl (fun _ => 0))), (q_14, .inr (2, [.ref w_18, .ref y_19, .ref a_20, .ref u_21, .int 0, .int 0, .int 1, .int 0])), (w_18, .inl (cI, 12, .inl (fun _ => 0))), (y_19, .inl (cI, 12, .inl (fun _ => 0))), (a_20, .inl (cI, 12, .inl (fun _ => 0))), (u_21, .inl (cI, 3, .inl (fun _ => 0))), (q_22, .inr (0, [.ref w_26, .ref y_27, .ref a_28, .int 0, .int 0])), (w_26, .inl (cI, 14, .inl (fun _ => 0))), (y_27, .inl (cI, 14, .inl (fun _ => 0))), (a_28, .inl (cI, 14, .inl (fun _ => 0))), (q_29, .inr (1, [.ref w_33, .int 0, .int 0])), (w_33, .inl (cI, 256, .inl (fun _ => 0))), (q_34, .inr (3, [.ref w_38, .ref y_39, .int 0])), (q_40, .inl (cQ, 2, .inr (.inr (.inr (.inr (fun _ => none)))))), (q_41, .inl (cZ, 2, .inl (fun _ => 0)))] := hD
  refine lv_iconst (v := 0) hx hb d_X8_init_85 (by decide) ?_
  refine lv_istore_n (lv' := [(1, .int 0), (0, .ref x)]) hx hb d_X8_init_86 rfl hl (by decide) rfl (fun ls hl => ?_)
  refine lv_iload_n hx hb d_X8_init_87 rfl (lv_at hl 0 rfl) ?_
  refine lv_iconst (v := 2) hx hb d_X8_init_88 (by decide) ?_
  refine lv_icmp_ge (tgt := 111) hx hb d_X8_init_89 (by decide) (fun c_42 => absurd c_42 (by decide +kernel)) (fun _ => ?_)
  refine lv_aload_n hx hb d_X8_init_92 rfl (lv_at hl 1 rfl) ?_
  refine va_get (D := D) (ci := 6) (v := .ref q_40) (C := RX8) (T := TX8) (N := 10) hx hb hg cu_iX8 hown hK.1 hP 0 rfl rfl 6 (by decide) (hg _ k_185) (fun _ h9 => h9) rfl d_X8_init_93 ?_
  refine lv_iload_n hx hb d_X8_init_96 rfl (lv_at hl 0 rfl) ?_
  refine va_new (ci := 2) (fs := [.null, .null, .null, .null, .int 0, .int 0, .int 0, .int 0]) (C := RX3) (T := TX3) (N := 8) hx hb hg cu_iX3 tyX3 tyX3_ok hown (hg _ k_78) (hg _ k_79) (hg _ k_45) hK.1 hP hD hS hA rfl (fun j hj => by rcases (show j = 0 ∨ j = 1 ∨ j = 2 ∨ j = 3 ∨ j = 4 ∨ j = 5 ∨ j = 6 ∨ j = 7 by omega) with rfl | rfl | rfl | rfl | rfl | rfl | rfl | rfl <;> rfl) (Nat.le_of_ble_eq_true rfl) (Nat.le_of_ble_eq_true rfl) d_X8_init_97 (fun q_43 H hP hD hS => ?_)
  have hP : va_P D vwCl [(x, .inr (6, [.ref q_1, .ref q_6, .ref q_14, .ref q_22, .ref q_29, .ref q_34, .ref q_40, .ref q_41, .null, .long 0])), (q_1, .inr (5, [.ref w_5, .int 0])), (w_5, .inl (cI, 130, .inl (fun _ => 0))), (q_6, .inr (2, [.ref w_10, .ref y_11, .ref a_12, .ref u_13, .int 0, .int 0, .int 1, .int 0])), (w_10, .inl (cI, 12, .inl (fun _ => 0))), (y_11, .inl (cI, 12, .inl (fun _ => 0))), (a_12, .inl (cI, 12, .inl (fun _ => 0))), (u_13, .inl (cI, 3, .inl (fun _ => 0))), (q_14, .inr (2, [.ref w_18, .ref y_19, .ref a_20, .ref u_21, .int 0, .int 0, .int 1, .int 0])), (w_18, .inl (cI, 12, .inl (fun _ => 0))), (y_19, .inl (cI, 12, .inl (fun _ => 0))), (a_20, .inl (cI, 12, .inl (fun _ => 0))), (u_21, .inl (cI, 3, .inl (fun _ => 0))), (q_22, .inr (0, [.ref w_26, .ref y_27, .ref a_28, .int 0, .int 0])), (w_26, .inl (cI, 14, .inl (fun _ => 0))), (y_27, .inl (cI, 14, .inl (fun _ => 0))), (a_28, .inl (cI, 14, .inl (fun _ => 0))), (q_29, .inr (1, [.ref w_33, .int 0, .int 0])), (w_33, .inl (cI, 256, .inl (fun _ => 0))), (q_34, .inr (3, [.ref w_38, .ref y_39, .int 0])), (q_40, .inl (cQ, 2, .inr (.inr (.inr (.inr (fun _ => none)))))), (q_41, .inl (cZ, 2, .inl (fun _ => 0))), (q_43, .inr (2, [.null, .null, .null, .null, .int 0, .int 0, .int 0, .int 0]))] H := hP
  have hD : va_D A [(x, .inr (6, [.ref q_1, .ref q_6, .ref q_14, .ref q_22, .ref q_29, .ref q_34, .ref q_40, .ref q_41, .null, .long 0])), (q_1, .inr (5, [.ref w_5, .int 0])), (w_5, .inl (cI, 130, .inl (fun _ => 0))), (q_6, .inr (2, [.ref w_10, .ref y_11, .ref a_12, .ref u_13, .int 0, .int 0, .int 1, .int 0])), (w_10, .inl (cI, 12, .inl (fun _ => 0))), (y_11, .inl (cI, 12, .inl (fun _ => 0))), (a_12, .inl (cI, 12, .inl (fun _ => 0))), (u_13, .inl (cI, 3, .inl (fun _ => 0))), (q_14, .inr (2, [.ref w_18, .ref y_19, .ref a_20, .ref u_21, .int 0, .int 0, .int 1, .int 0])), (w_18, .inl (cI, 12, .inl (fun _ => 0))), (y_19, .inl (cI, 12, .inl (fun _ => 0))), (a_20, .inl (cI, 12, .inl (fun _ => 0))), (u_21, .inl (cI, 3, .inl (fun _ => 0))), (q_22, .inr (0, [.ref w_26, .ref y_27, .ref a_28, .int 0, .int 0])), (w_26, .inl (cI, 14, .inl (fun _ => 0))), (y_27, .inl (cI, 14, .inl (fun _ => 0))), (a_28, .inl (cI, 14, .inl (fun _ => 0))), (q_29, .inr (1, [.ref w_33, .int 0, .int 0])), (w_33, .inl (cI, 256, .inl (fun _ => 0))), (q_34, .inr (3, [.ref w_38, .ref y_39, .int 0])), (q_40, .inl (cQ, 2, .inr (.inr (.inr (.inr (fun _ => none)))))), (q_41, .inl (cZ, 2, .inl (fun _ => 0))), (q_43, .inr (2, [.null, .null, .null, .null, .int 0, .int 0, .int 0, .int 0]))] := hD
  refine W.widen (k := 24) (n := 559) (Nat.le_of_ble_eq_true rfl) (Nat.le_of_ble_eq_true rfl) ?_
  refine lv_dup hx hb d_X8_init_100 rfl ?_
  refine cu_NV (wc := [(q_43, .inr (2, [.null, .null, .null, .null, .int 0, .int 0, .int 0, .int 0]))]) (wr := [(x, .inr (6, [.ref q_1, .ref q_6, .ref q_14, .ref q_22, .ref q_29, .ref q_34, .ref q_40, .ref q_41, .null, .long 0])), (q_1, .inr (5, [.ref w_5, .int 0])), (w_5, .inl (cI, 130, .inl (fun _ => 0))), (q_6, .inr (2, [.ref w_10, .ref y_11, .ref a_12, .ref u_13, .int 0, .int 0, .int 1, .int 0])), (w_10, .inl (cI, 12, .inl (fun _ => 0))), (y_11, .inl (cI, 12, .inl (fun _ => 0))), (a_12, .inl (cI, 12, .inl (fun _ => 0))), (u_13, .inl (cI, 3, .inl (fun _ => 0))), (q_14, .inr (2, [.ref w_18, .ref y_19, .ref a_20, .ref u_21, .int 0, .int 0, .int 1, .int 0])), (w_18, .inl (cI, 12, .inl (fun _ => 0))), (y_19, .inl (cI, 12, .inl (fun _ => 0))), (a_20, .inl (cI, 12, .inl (fun _ => 0))), (u_21, .inl (cI, 3, .inl (fun _ => 0))), (q_22, .inr (0, [.ref w_26, .ref y_27, .ref a_28, .int 0, .int 0])), (w_26, .inl (cI, 14, .inl (fun _ => 0))), (y_27, .inl (cI, 14, .inl (fun _ => 0))), (a_28, .inl (cI, 14, .inl (fun _ => 0))), (q_29, .inr (1, [.ref w_33, .int 0, .int 0])), (w_33, .inl (cI, 256, .inl (fun _ => 0))), (q_34, .inr (3, [.ref w_38, .ref y_39, .int 0])), (q_40, .inl (cQ, 2, .inr (.inr (.inr (.inr (fun _ => none)))))), (q_41, .inl (cZ, 2, .inl (fun _ => 0)))]) (rest := [.ref q_43, .int 0, .ref q_40]) [] ⟨hx, hb, hml, hown, hg⟩ (c_X3_init l D cI cZ cQ q_43) hd_X3_init k_82 hK.2.2.2.1 k_81 k_45 rfl ⟨Nat.le_of_ble_eq_true rfl, Nat.le_of_ble_eq_true rfl⟩ ⟨Nat.le_of_ble_eq_true rfl, Nat.le_of_ble_eq_true rfl⟩ hP hD hS hA hK [22] [0, 1, 2, 3, 4, 5, 6, 7, 8, 9, 10, 11, 12, 13, 14, 15, 16, 17, 18, 19, 20, 21] rfl rfl (by decide) (by decide) (by decide) rfl hl.1 rfl (Nat.le_of_ble_eq_true rfl) d_X8_init_101 (fun w_46 H locs hw_45 hP hD hS => ?_)
  obtain ⟨w_47, y_48, a_49, u_50, rfl⟩ := hw_45
  have hP : va_P D vwCl [(x, .inr (6, [.ref q_1, .ref q_6, .ref q_14, .ref q_22, .ref q_29, .ref q_34, .ref q_40, .ref q_41, .null, .long 0])), (q_1, .inr (5, [.ref w_5, .int 0])), (w_5, .inl (cI, 130, .inl (fun _ => 0))), (q_6, .inr (2, [.ref w_10, .ref y_11, .ref a_12, .ref u_13, .int 0, .int 0, .int 1, .int 0])), (w_10, .inl (cI, 12, .inl (fun _ => 0))), (y_11, .inl (cI, 12, .inl (fun _ => 0))), (a_12, .inl (cI, 12, .inl (fun _ => 0))), (u_13, .inl (cI, 3, .inl (fun _ => 0))), (q_14, .inr (2, [.ref w_18, .ref y_19, .ref a_20, .ref u_21, .int 0, .int 0, .int 1, .int 0])), (w_18, .inl (cI, 12, .inl (fun _ => 0))), (y_19, .inl (cI, 12, .inl (fun _ => 0))), (a_20, .inl (cI, 12, .inl (fun _ => 0))), (u_21, .inl (cI, 3, .inl (fun _ => 0))), (q_22, .inr (0, [.ref w_26, .ref y_27, .ref a_28, .int 0, .int 0])), (w_26, .inl (cI, 14, .inl (fun _ => 0))), (y_27, .inl (cI, 14, .inl (fun _ => 0))), (a_28, .inl (cI, 14, .inl (fun _ => 0))), (q_29, .inr (1, [.ref w_33, .int 0, .int 0])), (w_33, .inl (cI, 256, .inl (fun _ => 0))), (q_34, .inr (3, [.ref w_38, .ref y_39, .int 0])), (q_40, .inl (cQ, 2, .inr (.inr (.inr (.inr (fun _ => none)))))), (q_41, .inl (cZ, 2, .inl (fun _ => 0))), (q_43, .inr (2, [.ref w_47, .ref y_48, .ref a_49, .ref u_50, .int 0, .int 0, .int 1, .int 0])), (w_47, .inl (cI, 12, .inl (fun _ => 0))), (y_48, .inl (cI, 12, .inl (fun _ => 0))), (a_49, .inl (cI, 12, .inl (fun _ => 0))), (u_50, .inl (cI, 3, .inl (fun _ => 0)))] H := hP
  have hD : va_D A [(x, .inr (6, [.ref q_1, .ref q_6, .ref q_14, .ref q_22, .ref q_29, .ref q_34, .ref q_40, .ref q_41, .null, .long 0])), (q_1, .inr (5, [.ref w_5, .int 0])), (w_5, .inl (cI, 130, .inl (fun _ => 0))), (q_6, .inr (2, [.ref w_10, .ref y_11, .ref a_12, .ref u_13, .int 0, .int 0, .int 1, .int 0])), (w_10, .inl (cI, 12, .inl (fun _ => 0))), (y_11, .inl (cI, 12, .inl (fun _ => 0))), (a_12, .inl (cI, 12, .inl (fun _ => 0))), (u_13, .inl (cI, 3, .inl (fun _ => 0))), (q_14, .inr (2, [.ref w_18, .ref y_19, .ref a_20, .ref u_21, .int 0, .int 0, .int 1, .int 0])), (w_18, .inl (cI, 12, .inl (fun _ => 0))), (y_19, .inl (cI, 12, .inl (fun _ => 0))), (a_20, .inl (cI, 12, .inl (fun _ => 0))), (u_21, .inl (cI, 3, .inl (fun _ => 0))), (q_22, .inr (0, [.ref w_26, .ref y_27, .ref a_28, .int 0, .int 0])), (w_26, .inl (cI, 14, .inl (fun _ => 0))), (y_27, .inl (cI, 14, .inl (fun _ => 0))), (a_28, .inl (cI, 14, .inl (fun _ => 0))), (q_29, .inr (1, [.ref w_33, .int 0, .int 0])), (w_33, .inl (cI, 256, .inl (fun _ => 0))), (q_34, .inr (3, [.ref w_38, .ref y_39, .int 0])), (q_40, .inl (cQ, 2, .inr (.inr (.inr (.inr (fun _ => none)))))), (q_41, .inl (cZ, 2, .inl (fun _ => 0))), (q_43, .inr (2, [.ref w_47, .ref y_48, .ref a_49, .ref u_50, .int 0, .int 0, .int 1, .int 0])), (w_47, .inl (cI, 12, .inl (fun _ => 0))), (y_48, .inl (cI, 12, .inl (fun _ => 0))), (a_49, .inl (cI, 12, .inl (fun _ => 0))), (u_50, .inl (cI, 3, .inl (fun _ => 0)))] := hD
  refine W.widen (k := 28) (n := 598) (Nat.le_of_ble_eq_true rfl) (Nat.le_of_ble_eq_true rfl) ?_
  refine va_astq hx hb hK.1 hP hD hS 20 2 22 2 rfl rfl rfl rfl (vp_in_nI (n := 0) (N := 2) (Nat.le_of_ble_eq_true rfl) (by decide)) d_X8_init_104 (fun H locs hP hD hS => ?_)
  have hP : va_P D vwCl [(x, .inr (6, [.ref q_1, .ref q_6, .ref q_14, .ref q_22, .ref q_29, .ref q_34, .ref q_40, .ref q_41, .null, .long 0])), (q_1, .inr (5, [.ref w_5, .int 0])), (w_5, .inl (cI, 130, .inl (fun _ => 0))), (q_6, .inr (2, [.ref w_10, .ref y_11, .ref a_12, .ref u_13, .int 0, .int 0, .int 1, .int 0])), (w_10, .inl (cI, 12, .inl (fun _ => 0))), (y_11, .inl (cI, 12, .inl (fun _ => 0))), (a_12, .inl (cI, 12, .inl (fun _ => 0))), (u_13, .inl (cI, 3, .inl (fun _ => 0))), (q_14, .inr (2, [.ref w_18, .ref y_19, .ref a_20, .ref u_21, .int 0, .int 0, .int 1, .int 0])), (w_18, .inl (cI, 12, .inl (fun _ => 0))), (y_19, .inl (cI, 12, .inl (fun _ => 0))), (a_20, .inl (cI, 12, .inl (fun _ => 0))), (u_21, .inl (cI, 3, .inl (fun _ => 0))), (q_22, .inr (0, [.ref w_26, .ref y_27, .ref a_28, .int 0, .int 0])), (w_26, .inl (cI, 14, .inl (fun _ => 0))), (y_27, .inl (cI, 14, .inl (fun _ => 0))), (a_28, .inl (cI, 14, .inl (fun _ => 0))), (q_29, .inr (1, [.ref w_33, .int 0, .int 0])), (w_33, .inl (cI, 256, .inl (fun _ => 0))), (q_34, .inr (3, [.ref w_38, .ref y_39, .int 0])), (q_40, .inl (cQ, 2, .inr (.inr (.inr (.inr (va_up (fun _ => none) 0 (some q_43))))))), (q_41, .inl (cZ, 2, .inl (fun _ => 0))), (q_43, .inr (2, [.ref w_47, .ref y_48, .ref a_49, .ref u_50, .int 0, .int 0, .int 1, .int 0])), (w_47, .inl (cI, 12, .inl (fun _ => 0))), (y_48, .inl (cI, 12, .inl (fun _ => 0))), (a_49, .inl (cI, 12, .inl (fun _ => 0))), (u_50, .inl (cI, 3, .inl (fun _ => 0)))] H := hP
  have hD : va_D A [(x, .inr (6, [.ref q_1, .ref q_6, .ref q_14, .ref q_22, .ref q_29, .ref q_34, .ref q_40, .ref q_41, .null, .long 0])), (q_1, .inr (5, [.ref w_5, .int 0])), (w_5, .inl (cI, 130, .inl (fun _ => 0))), (q_6, .inr (2, [.ref w_10, .ref y_11, .ref a_12, .ref u_13, .int 0, .int 0, .int 1, .int 0])), (w_10, .inl (cI, 12, .inl (fun _ => 0))), (y_11, .inl (cI, 12, .inl (fun _ => 0))), (a_12, .inl (cI, 12, .inl (fun _ => 0))), (u_13, .inl (cI, 3, .inl (fun _ => 0))), (q_14, .inr (2, [.ref w_18, .ref y_19, .ref a_20, .ref u_21, .int 0, .int 0, .int 1, .int 0])), (w_18, .inl (cI, 12, .inl (fun _ => 0))), (y_19, .inl (cI, 12, .inl (fun _ => 0))), (a_20, .inl (cI, 12, .inl (fun _ => 0))), (u_21, .inl (cI, 3, .inl (fun _ => 0))), (q_22, .inr (0, [.ref w_26, .ref y_27, .ref a_28, .int 0, .int 0])), (w_26, .inl (cI, 14, .inl (fun _ => 0))), (y_27, .inl (cI, 14, .inl (fun _ => 0))), (a_28, .inl (cI, 14, .inl (fun _ => 0))), (q_29, .inr (1, [.ref w_33, .int 0, .int 0])), (w_33, .inl (cI, 256, .inl (fun _ => 0))), (q_34, .inr (3, [.ref w_38, .ref y_39, .int 0])), (q_40, .inl (cQ, 2, .inr (.inr (.inr (.inr (va_up (fun _ => none) 0 (some q_43))))))), (q_41, .inl (cZ, 2, .inl (fun _ => 0))), (q_43, .inr (2, [.ref w_47, .ref y_48, .ref a_49, .ref u_50, .int 0, .int 0, .int 1, .int 0])), (w_47, .inl (cI, 12, .inl (fun _ => 0))), (y_48, .inl (cI, 12, .inl (fun _ => 0))), (a_49, .inl (cI, 12, .inl (fun _ => 0))), (u_50, .inl (cI, 3, .inl (fun _ => 0)))] := hD
  refine lv_iinc (v := 1) (lv' := [(1, .int 1), (0, .ref x)]) hx hb d_X8_init_105 hl (k := 0) rfl (by decide +kernel) (by decide) rfl (fun ls hl => ?_)
  refine lv_goto (tgt := 87) hx hb d_X8_init_108 (by decide) ?_
  refine lv_iload_n hx hb d_X8_init_87 rfl (lv_at hl 0 rfl) ?_
  refine lv_iconst (v := 2) hx hb d_X8_init_88 (by decide) ?_
  refine lv_icmp_ge (tgt := 111) hx hb d_X8_init_89 (by decide) (fun c_51 => absurd c_51 (by decide +kernel)) (fun _ => ?_)
  refine lv_aload_n hx hb d_X8_init_92 rfl (lv_at hl 1 rfl) ?_
  refine va_get (D := D) (ci := 6) (v := .ref q_40) (C := RX8) (T := TX8) (N := 10) hx hb hg cu_iX8 hown hK.1 hP 0 rfl rfl 6 (by decide) (hg _ k_185) (fun _ h9 => h9) rfl d_X8_init_93 ?_
  refine lv_iload_n hx hb d_X8_init_96 rfl (lv_at hl 0 rfl) ?_
  refine va_new (ci := 2) (fs := [.null, .null, .null, .null, .int 0, .int 0, .int 0, .int 0]) (C := RX3) (T := TX3) (N := 8) hx hb hg cu_iX3 tyX3 tyX3_ok hown (hg _ k_78) (hg _ k_79) (hg _ k_45) hK.1 hP hD hS hA rfl (fun j hj => by rcases (show j = 0 ∨ j = 1 ∨ j = 2 ∨ j = 3 ∨ j = 4 ∨ j = 5 ∨ j = 6 ∨ j = 7 by omega) with rfl | rfl | rfl | rfl | rfl | rfl | rfl | rfl <;> rfl) (Nat.le_of_ble_eq_true rfl) (Nat.le_of_ble_eq_true rfl) d_X8_init_97 (fun q_52 H hP hD hS => ?_)
  have hP : va_P D vwCl [(x, .inr (6, [.ref q_1, .ref q_6, .ref q_14, .ref q_22, .ref q_29, .ref q_34, .ref q_40, .ref q_41, .null, .long 0])), (q_1, .inr (5, [.ref w_5, .int 0])), (w_5, .inl (cI, 130, .inl (fun _ => 0))), (q_6, .inr (2, [.ref w_10, .ref y_11, .ref a_12, .ref u_13, .int 0, .int 0, .int 1, .int 0])), (w_10, .inl (cI, 12, .inl (fun _ => 0))), (y_11, .inl (cI, 12, .inl (fun _ => 0))), (a_12, .inl (cI, 12, .inl (fun _ => 0))), (u_13, .inl (cI, 3, .inl (fun _ => 0))), (q_14, .inr (2, [.ref w_18, .ref y_19, .ref a_20, .ref u_21, .int 0, .int 0, .int 1, .int 0])), (w_18, .inl (cI, 12, .inl (fun _ => 0))), (y_19, .inl (cI, 12, .inl (fun _ => 0))), (a_20, .inl (cI, 12, .inl (fun _ => 0))), (u_21, .inl (cI, 3, .inl (fun _ => 0))), (q_22, .inr (0, [.ref w_26, .ref y_27, .ref a_28, .int 0, .int 0])), (w_26, .inl (cI, 14, .inl (fun _ => 0))), (y_27, .inl (cI, 14, .inl (fun _ => 0))), (a_28, .inl (cI, 14, .inl (fun _ => 0))), (q_29, .inr (1, [.ref w_33, .int 0, .int 0])), (w_33, .inl (cI, 256, .inl (fun _ => 0))), (q_34, .inr (3, [.ref w_38, .ref y_39, .int 0])), (q_40, .inl (cQ, 2, .inr (.inr (.inr (.inr (va_up (fun _ => none) 0 (some q_43))))))), (q_41, .inl (cZ, 2, .inl (fun _ => 0))), (q_43, .inr (2, [.ref w_47, .ref y_48, .ref a_49, .ref u_50, .int 0, .int 0, .int 1, .int 0])), (w_47, .inl (cI, 12, .inl (fun _ => 0))), (y_48, .inl (cI, 12, .inl (fun _ => 0))), (a_49, .inl (cI, 12, .inl (fun _ => 0))), (u_50, .inl (cI, 3, .inl (fun _ => 0))), (q_52, .inr (2, [.null, .null, .null, .null, .int 0, .int 0, .int 0, .int 0]))] H := hP
  have hD : va_D A [(x, .inr (6, [.ref q_1, .ref q_6, .ref q_14, .ref q_22, .ref q_29, .ref q_34, .ref q_40, .ref q_41, .null, .long 0])), (q_1, .inr (5, [.ref w_5, .int 0])), (w_5, .inl (cI, 130, .inl (fun _ => 0))), (q_6, .inr (2, [.ref w_10, .ref y_11, .ref a_12, .ref u_13, .int 0, .int 0, .int 1, .int 0])), (w_10, .inl (cI, 12, .inl (fun _ => 0))), (y_11, .inl (cI, 12, .inl (fun _ => 0))), (a_12, .inl (cI, 12, .inl (fun _ => 0))), (u_13, .inl (cI, 3, .inl (fun _ => 0))), (q_14, .inr (2, [.ref w_18, .ref y_19, .ref a_20, .ref u_21, .int 0, .int 0, .int 1, .int 0])), (w_18, .inl (cI, 12, .inl (fun _ => 0))), (y_19, .inl (cI, 12, .inl (fun _ => 0))), (a_20, .inl (cI, 12, .inl (fun _ => 0))), (u_21, .inl (cI, 3, .inl (fun _ => 0))), (q_22, .inr (0, [.ref w_26, .ref y_27, .ref a_28, .int 0, .int 0])), (w_26, .inl (cI, 14, .inl (fun _ => 0))), (y_27, .inl (cI, 14, .inl (fun _ => 0))), (a_28, .inl (cI, 14, .inl (fun _ => 0))), (q_29, .inr (1, [.ref w_33, .int 0, .int 0])), (w_33, .inl (cI, 256, .inl (fun _ => 0))), (q_34, .inr (3, [.ref w_38, .ref y_39, .int 0])), (q_40, .inl (cQ, 2, .inr (.inr (.inr (.inr (va_up (fun _ => none) 0 (some q_43))))))), (q_41, .inl (cZ, 2, .inl (fun _ => 0))), (q_43, .inr (2, [.ref w_47, .ref y_48, .ref a_49, .ref u_50, .int 0, .int 0, .int 1, .int 0])), (w_47, .inl (cI, 12, .inl (fun _ => 0))), (y_48, .inl (cI, 12, .inl (fun _ => 0))), (a_49, .inl (cI, 12, .inl (fun _ => 0))), (u_50, .inl (cI, 3, .inl (fun _ => 0))), (q_52, .inr (2, [.null, .null, .null, .null, .int 0, .int 0, .int 0, .int 0]))] := hD
  refine W.widen (k := 29) (n := 606) (Nat.le_of_ble_eq_true rfl) (Nat.le_of_ble_eq_true rfl) ?_
  refine lv_dup hx hb d_X8_init_100 rfl ?_
  refine cu_NV (wc := [(q_52, .inr (2, [.null, .null, .null, .null, .int 0, .int 0, .int 0, .int 0]))]) (wr := [(x, .inr (6, [.ref q_1, .ref q_6, .ref q_14, .ref q_22, .ref q_29, .ref q_34, .ref q_40, .ref q_41, .null, .long 0])), (q_1, .inr (5, [.ref w_5, .int 0])), (w_5, .inl (cI, 130, .inl (fun _ => 0))), (q_6, .inr (2, [.ref w_10, .ref y_11, .ref a_12, .ref u_13, .int 0, .int 0, .int 1, .int 0])), (w_10, .inl (cI, 12, .inl (fun _ => 0))), (y_11, .inl (cI, 12, .inl (fun _ => 0))), (a_12, .inl (cI, 12, .inl (fun _ => 0))), (u_13, .inl (cI, 3, .inl (fun _ => 0))), (q_14, .inr (2, [.ref w_18, .ref y_19, .ref a_20, .ref u_21, .int 0, .int 0, .int 1, .int 0])), (w_18, .inl (cI, 12, .inl (fun _ => 0))), (y_19, .inl (cI, 12, .inl (fun _ => 0))), (a_20, .inl (cI, 12, .inl (fun _ => 0))), (u_21, .inl (cI, 3, .inl (fun _ => 0))), (q_22, .inr (0, [.ref w_26, .ref y_27, .ref a_28, .int 0, .int 0])), (w_26, .inl (cI, 14, .inl (fun _ => 0))), (y_27, .inl (cI, 14, .inl (fun _ => 0))), (a_28, .inl (cI, 14, .inl (fun _ => 0))), (q_29, .inr (1, [.ref w_33, .int 0, .int 0])), (w_33, .inl (cI, 256, .inl (fun _ => 0))), (q_34, .inr (3, [.ref w_38, .ref y_39, .int 0])), (q_40, .inl (cQ, 2, .inr (.inr (.inr (.inr (va_up (fun _ => none) 0 (some q_43))))))), (q_41, .inl (cZ, 2, .inl (fun _ => 0))), (q_43, .inr (2, [.ref w_47, .ref y_48, .ref a_49, .ref u_50, .int 0, .int 0, .int 1, .int 0])), (w_47, .inl (cI, 12, .inl (fun _ => 0))), (y_48, .inl (cI, 12, .inl (fun _ => 0))), (a_49, .inl (cI, 12, .inl (fun _ => 0))), (u_50, .inl (cI, 3, .inl (fun _ => 0)))]) (rest := [.ref q_52, .int 1, .ref q_40]) [] ⟨hx, hb, hml, hown, hg⟩ (c_X3_init l D cI cZ cQ q_52) hd_X3_init k_82 hK.2.2.2.1 k_81 k_45 rfl ⟨Nat.le_of_ble_eq_true rfl, Nat.le_of_ble_eq_true rfl⟩ ⟨Nat.le_of_ble_eq_true rfl, Nat.le_of_ble_eq_true rfl⟩ hP hD hS hA hK [27] [0, 1, 2, 3, 4, 5, 6, 7, 8, 9, 10, 11, 12, 13, 14, 15, 16, 17, 18, 19, 20, 21, 22, 23, 24, 25, 26] rfl rfl (by decide) (by decide) (by decide) rfl hl.1 rfl (Nat.le_of_ble_eq_true rfl) d_X8_init_101 (fun w_55 H locs hw_54 hP hD hS => ?_)
  obtain ⟨w_56, y_57, a_58, u_59, rfl⟩ := hw_54
  have hP : va_P D vwCl [(x, .inr (6, [.ref q_1, .ref q_6, .ref q_14, .ref q_22, .ref q_29, .ref q_34, .ref q_40, .ref q_41, .null, .long 0])), (q_1, .inr (5, [.ref w_5, .int 0])), (w_5, .inl (cI, 130, .inl (fun _ => 0))), (q_6, .inr (2, [.ref w_10, .ref y_11, .ref a_12, .ref u_13, .int 0, .int 0, .int 1, .int 0])), (w_10, .inl (cI, 12, .inl (fun _ => 0))), (y_11, .inl (cI, 12, .inl (fun _ => 0))), (a_12, .inl (cI, 12, .inl (fun _ => 0))), (u_13, .inl (cI, 3, .inl (fun _ => 0))), (q_14, .inr (2, [.ref w_18, .ref y_19, .ref a_20, .ref u_21, .int 0, .int 0, .int 1, .int 0])), (w_18, .inl (cI, 12, .inl (fun _ => 0))), (y_19, .inl (cI, 12, .inl (fun _ => 0))), (a_20, .inl (cI, 12, .inl (fun _ => 0))), (u_21, .inl (cI, 3, .inl (fun _ => 0))), (q_22, .inr (0, [.ref w_26, .ref y_27, .ref a_28, .int 0, .int 0])), (w_26, .inl (cI, 14, .inl (fun _ => 0))), (y_27, .inl (cI, 14, .inl (fun _ => 0))), (a_28, .inl (cI, 14, .inl (fun _ => 0))), (q_29, .inr (1, [.ref w_33, .int 0, .int 0])), (w_33, .inl (cI, 256, .inl (fun _ => 0))), (q_34, .inr (3, [.ref w_38, .ref y_39, .int 0])), (q_40, .inl (cQ, 2, .inr (.inr (.inr (.inr (va_up (fun _ => none) 0 (some q_43))))))), (q_41, .inl (cZ, 2, .inl (fun _ => 0))), (q_43, .inr (2, [.ref w_47, .ref y_48, .ref a_49, .ref u_50, .int 0, .int 0, .int 1, .int 0])), (w_47, .inl (cI, 12, .inl (fun _ => 0))), (y_48, .inl (cI, 12, .inl (fun _ => 0))), (a_49, .inl (cI, 12, .inl (fun _ => 0))), (u_50, .inl (cI, 3, .inl (fun _ => 0))), (q_52, .inr (2, [.ref w_56, .ref y_57, .ref a_58, .ref u_59, .int 0, .int 0, .int 1, .int 0])), (w_56, .inl (cI, 12, .inl (fun _ => 0))), (y_57, .inl (cI, 12, .inl (fun _ => 0))), (a_58, .inl (cI, 12, .inl (fun _ => 0))), (u_59, .inl (cI, 3, .inl (fun _ => 0)))] H := hP
  have hD : va_D A [(x, .inr (6, [.ref q_1, .ref q_6, .ref q_14, .ref q_22, .ref q_29, .ref q_34, .ref q_40, .ref q_41, .null, .long 0])), (q_1, .inr (5, [.ref w_5, .int 0])), (w_5, .inl (cI, 130, .inl (fun _ => 0))), (q_6, .inr (2, [.ref w_10, .ref y_11, .ref a_12, .ref u_13, .int 0, .int 0, .int 1, .int 0])), (w_10, .inl (cI, 12, .inl (fun _ => 0))), (y_11, .inl (cI, 12, .inl (fun _ => 0))), (a_12, .inl (cI, 12, .inl (fun _ => 0))), (u_13, .inl (cI, 3, .inl (fun _ => 0))), (q_14, .inr (2, [.ref w_18, .ref y_19, .ref a_20, .ref u_21, .int 0, .int 0, .int 1, .int 0])), (w_18, .inl (cI, 12, .inl (fun _ => 0))), (y_19, .inl (cI, 12, .inl (fun _ => 0))), (a_20, .inl (cI, 12, .inl (fun _ => 0))), (u_21, .inl (cI, 3, .inl (fun _ => 0))), (q_22, .inr (0, [.ref w_26, .ref y_27, .ref a_28, .int 0, .int 0])), (w_26, .inl (cI, 14, .inl (fun _ => 0))), (y_27, .inl (cI, 14, .inl (fun _ => 0))), (a_28, .inl (cI, 14, .inl (fun _ => 0))), (q_29, .inr (1, [.ref w_33, .int 0, .int 0])), (w_33, .inl (cI, 256, .inl (fun _ => 0))), (q_34, .inr (3, [.ref w_38, .ref y_39, .int 0])), (q_40, .inl (cQ, 2, .inr (.inr (.inr (.inr (va_up (fun _ => none) 0 (some q_43))))))), (q_41, .inl (cZ, 2, .inl (fun _ => 0))), (q_43, .inr (2, [.ref w_47, .ref y_48, .ref a_49, .ref u_50, .int 0, .int 0, .int 1, .int 0])), (w_47, .inl (cI, 12, .inl (fun _ => 0))), (y_48, .inl (cI, 12, .inl (fun _ => 0))), (a_49, .inl (cI, 12, .inl (fun _ => 0))), (u_50, .inl (cI, 3, .inl (fun _ => 0))), (q_52, .inr (2, [.ref w_56, .ref y_57, .ref a_58, .ref u_59, .int 0, .int 0, .int 1, .int 0])), (w_56, .inl (cI, 12, .inl (fun _ => 0))), (y_57, .inl (cI, 12, .inl (fun _ => 0))), (a_58, .inl (cI, 12, .inl (fun _ => 0))), (u_59, .inl (cI, 3, .inl (fun _ => 0)))] := hD
  refine W.widen (k := 33) (n := 645) (Nat.le_of_ble_eq_true rfl) (Nat.le_of_ble_eq_true rfl) ?_
  refine va_astq hx hb hK.1 hP hD hS 20 2 27 2 rfl rfl rfl rfl (vp_in_nI (n := 1) (N := 2) (Nat.le_of_ble_eq_true rfl) (by decide)) d_X8_init_104 (fun H locs hP hD hS => ?_)
  have hP : va_P D vwCl [(x, .inr (6, [.ref q_1, .ref q_6, .ref q_14, .ref q_22, .ref q_29, .ref q_34, .ref q_40, .ref q_41, .null, .long 0])), (q_1, .inr (5, [.ref w_5, .int 0])), (w_5, .inl (cI, 130, .inl (fun _ => 0))), (q_6, .inr (2, [.ref w_10, .ref y_11, .ref a_12, .ref u_13, .int 0, .int 0, .int 1, .int 0])), (w_10, .inl (cI, 12, .inl (fun _ => 0))), (y_11, .inl (cI, 12, .inl (fun _ => 0))), (a_12, .inl (cI, 12, .inl (fun _ => 0))), (u_13, .inl (cI, 3, .inl (fun _ => 0))), (q_14, .inr (2, [.ref w_18, .ref y_19, .ref a_20, .ref u_21, .int 0, .int 0, .int 1, .int 0])), (w_18, .inl (cI, 12, .inl (fun _ => 0))), (y_19, .inl (cI, 12, .inl (fun _ => 0))), (a_20, .inl (cI, 12, .inl (fun _ => 0))), (u_21, .inl (cI, 3, .inl (fun _ => 0))), (q_22, .inr (0, [.ref w_26, .ref y_27, .ref a_28, .int 0, .int 0])), (w_26, .inl (cI, 14, .inl (fun _ => 0))), (y_27, .inl (cI, 14, .inl (fun _ => 0))), (a_28, .inl (cI, 14, .inl (fun _ => 0))), (q_29, .inr (1, [.ref w_33, .int 0, .int 0])), (w_33, .inl (cI, 256, .inl (fun _ => 0))), (q_34, .inr (3, [.ref w_38, .ref y_39, .int 0])), (q_40, .inl (cQ, 2, .inr (.inr (.inr (.inr (va_up (va_up (fun _ => none) 0 (some q_43)) 1 (some q_52))))))), (q_41, .inl (cZ, 2, .inl (fun _ => 0))), (q_43, .inr (2, [.ref w_47, .ref y_48, .ref a_49, .ref u_50, .int 0, .int 0, .int 1, .int 0])), (w_47, .inl (cI, 12, .inl (fun _ => 0))), (y_48, .inl (cI, 12, .inl (fun _ => 0))), (a_49, .inl (cI, 12, .inl (fun _ => 0))), (u_50, .inl (cI, 3, .inl (fun _ => 0))), (q_52, .inr (2, [.ref w_56, .ref y_57, .ref a_58, .ref u_59, .int 0, .int 0, .int 1, .int 0])), (w_56, .inl (cI, 12, .inl (fun _ => 0))), (y_57, .inl (cI, 12, .inl (fun _ => 0))), (a_58, .inl (cI, 12, .inl (fun _ => 0))), (u_59, .inl (cI, 3, .inl (fun _ => 0)))] H := hP
  have hD : va_D A [(x, .inr (6, [.ref q_1, .ref q_6, .ref q_14, .ref q_22, .ref q_29, .ref q_34, .ref q_40, .ref q_41, .null, .long 0])), (q_1, .inr (5, [.ref w_5, .int 0])), (w_5, .inl (cI, 130, .inl (fun _ => 0))), (q_6, .inr (2, [.ref w_10, .ref y_11, .ref a_12, .ref u_13, .int 0, .int 0, .int 1, .int 0])), (w_10, .inl (cI, 12, .inl (fun _ => 0))), (y_11, .inl (cI, 12, .inl (fun _ => 0))), (a_12, .inl (cI, 12, .inl (fun _ => 0))), (u_13, .inl (cI, 3, .inl (fun _ => 0))), (q_14, .inr (2, [.ref w_18, .ref y_19, .ref a_20, .ref u_21, .int 0, .int 0, .int 1, .int 0])), (w_18, .inl (cI, 12, .inl (fun _ => 0))), (y_19, .inl (cI, 12, .inl (fun _ => 0))), (a_20, .inl (cI, 12, .inl (fun _ => 0))), (u_21, .inl (cI, 3, .inl (fun _ => 0))), (q_22, .inr (0, [.ref w_26, .ref y_27, .ref a_28, .int 0, .int 0])), (w_26, .inl (cI, 14, .inl (fun _ => 0))), (y_27, .inl (cI, 14, .inl (fun _ => 0))), (a_28, .inl (cI, 14, .inl (fun _ => 0))), (q_29, .inr (1, [.ref w_33, .int 0, .int 0])), (w_33, .inl (cI, 256, .inl (fun _ => 0))), (q_34, .inr (3, [.ref w_38, .ref y_39, .int 0])), (q_40, .inl (cQ, 2, .inr (.inr (.inr (.inr (va_up (va_up (fun _ => none) 0 (some q_43)) 1 (some q_52))))))), (q_41, .inl (cZ, 2, .inl (fun _ => 0))), (q_43, .inr (2, [.ref w_47, .ref y_48, .ref a_49, .ref u_50, .int 0, .int 0, .int 1, .int 0])), (w_47, .inl (cI, 12, .inl (fun _ => 0))), (y_48, .inl (cI, 12, .inl (fun _ => 0))), (a_49, .inl (cI, 12, .inl (fun _ => 0))), (u_50, .inl (cI, 3, .inl (fun _ => 0))), (q_52, .inr (2, [.ref w_56, .ref y_57, .ref a_58, .ref u_59, .int 0, .int 0, .int 1, .int 0])), (w_56, .inl (cI, 12, .inl (fun _ => 0))), (y_57, .inl (cI, 12, .inl (fun _ => 0))), (a_58, .inl (cI, 12, .inl (fun _ => 0))), (u_59, .inl (cI, 3, .inl (fun _ => 0)))] := hD
  refine lv_iinc (v := 2) (lv' := [(1, .int 2), (0, .ref x)]) hx hb d_X8_init_105 hl (k := 0) rfl (by decide +kernel) (by decide) rfl (fun ls hl => ?_)
  refine lv_goto (tgt := 87) hx hb d_X8_init_108 (by decide) ?_
  refine lv_iload_n hx hb d_X8_init_87 rfl (lv_at hl 0 rfl) ?_
  refine lv_iconst (v := 2) hx hb d_X8_init_88 (by decide) ?_
  refine lv_icmp_ge (tgt := 111) hx hb d_X8_init_89 (by decide) (fun _ => ?_) (fun c_60 => absurd (by decide +kernel) c_60)
  exact hret _ _ _ _ [(x, .inr (6, [.ref q_1, .ref q_6, .ref q_14, .ref q_22, .ref q_29, .ref q_34, .ref q_40, .ref q_41, .null, .long 0])), (q_1, .inr (5, [.ref w_5, .int 0])), (w_5, .inl (cI, 130, .inl (fun _ => 0))), (q_6, .inr (2, [.ref w_10, .ref y_11, .ref a_12, .ref u_13, .int 0, .int 0, .int 1, .int 0])), (w_10, .inl (cI, 12, .inl (fun _ => 0))), (y_11, .inl (cI, 12, .inl (fun _ => 0))), (a_12, .inl (cI, 12, .inl (fun _ => 0))), (u_13, .inl (cI, 3, .inl (fun _ => 0))), (q_14, .inr (2, [.ref w_18, .ref y_19, .ref a_20, .ref u_21, .int 0, .int 0, .int 1, .int 0])), (w_18, .inl (cI, 12, .inl (fun _ => 0))), (y_19, .inl (cI, 12, .inl (fun _ => 0))), (a_20, .inl (cI, 12, .inl (fun _ => 0))), (u_21, .inl (cI, 3, .inl (fun _ => 0))), (q_22, .inr (0, [.ref w_26, .ref y_27, .ref a_28, .int 0, .int 0])), (w_26, .inl (cI, 14, .inl (fun _ => 0))), (y_27, .inl (cI, 14, .inl (fun _ => 0))), (a_28, .inl (cI, 14, .inl (fun _ => 0))), (q_29, .inr (1, [.ref w_33, .int 0, .int 0])), (w_33, .inl (cI, 256, .inl (fun _ => 0))), (q_34, .inr (3, [.ref w_38, .ref y_39, .int 0])), (q_40, .inl (cQ, 2, .inr (.inr (.inr (.inr (va_up (va_up (fun _ => none) 0 (some q_43)) 1 (some q_52))))))), (q_43, .inr (2, [.ref w_47, .ref y_48, .ref a_49, .ref u_50, .int 0, .int 0, .int 1, .int 0])), (w_47, .inl (cI, 12, .inl (fun _ => 0))), (y_48, .inl (cI, 12, .inl (fun _ => 0))), (a_49, .inl (cI, 12, .inl (fun _ => 0))), (u_50, .inl (cI, 3, .inl (fun _ => 0))), (q_52, .inr (2, [.ref w_56, .ref y_57, .ref a_58, .ref u_59, .int 0, .int 0, .int 1, .int 0])), (w_56, .inl (cI, 12, .inl (fun _ => 0))), (y_57, .inl (cI, 12, .inl (fun _ => 0))), (a_58, .inl (cI, 12, .inl (fun _ => 0))), (u_59, .inl (cI, 3, .inl (fun _ => 0))), (q_41, .inl (cZ, 2, .inl (fun _ => 0)))] _ _ (hP.sub (ws' := [(x, .inr (6, [.ref q_1, .ref q_6, .ref q_14, .ref q_22, .ref q_29, .ref q_34, .ref q_40, .ref q_41, .null, .long 0])), (q_1, .inr (5, [.ref w_5, .int 0])), (w_5, .inl (cI, 130, .inl (fun _ => 0))), (q_6, .inr (2, [.ref w_10, .ref y_11, .ref a_12, .ref u_13, .int 0, .int 0, .int 1, .int 0])), (w_10, .inl (cI, 12, .inl (fun _ => 0))), (y_11, .inl (cI, 12, .inl (fun _ => 0))), (a_12, .inl (cI, 12, .inl (fun _ => 0))), (u_13, .inl (cI, 3, .inl (fun _ => 0))), (q_14, .inr (2, [.ref w_18, .ref y_19, .ref a_20, .ref u_21, .int 0, .int 0, .int 1, .int 0])), (w_18, .inl (cI, 12, .inl (fun _ => 0))), (y_19, .inl (cI, 12, .inl (fun _ => 0))), (a_20, .inl (cI, 12, .inl (fun _ => 0))), (u_21, .inl (cI, 3, .inl (fun _ => 0))), (q_22, .inr (0, [.ref w_26, .ref y_27, .ref a_28, .int 0, .int 0])), (w_26, .inl (cI, 14, .inl (fun _ => 0))), (y_27, .inl (cI, 14, .inl (fun _ => 0))), (a_28, .inl (cI, 14, .inl (fun _ => 0))), (q_29, .inr (1, [.ref w_33, .int 0, .int 0])), (w_33, .inl (cI, 256, .inl (fun _ => 0))), (q_34, .inr (3, [.ref w_38, .ref y_39, .int 0])), (q_40, .inl (cQ, 2, .inr (.inr (.inr (.inr (va_up (va_up (fun _ => none) 0 (some q_43)) 1 (some q_52))))))), (q_43, .inr (2, [.ref w_47, .ref y_48, .ref a_49, .ref u_50, .int 0, .int 0, .int 1, .int 0])), (w_47, .inl (cI, 12, .inl (fun _ => 0))), (y_48, .inl (cI, 12, .inl (fun _ => 0))), (a_49, .inl (cI, 12, .inl (fun _ => 0))), (u_50, .inl (cI, 3, .inl (fun _ => 0))), (q_52, .inr (2, [.ref w_56, .ref y_57, .ref a_58, .ref u_59, .int 0, .int 0, .int 1, .int 0])), (w_56, .inl (cI, 12, .inl (fun _ => 0))), (y_57, .inl (cI, 12, .inl (fun _ => 0))), (a_58, .inl (cI, 12, .inl (fun _ => 0))), (u_59, .inl (cI, 3, .inl (fun _ => 0))), (q_41, .inl (cZ, 2, .inl (fun _ => 0)))]) [0, 1, 2, 3, 4, 5, 6, 7, 8, 9, 10, 11, 12, 13, 14, 15, 16, 17, 18, 19, 20, 22, 23, 24, 25, 26, 27, 28, 29, 30, 31, 21] rfl) (hD.sub (ws' := [(x, .inr (6, [.ref q_1, .ref q_6, .ref q_14, .ref q_22, .ref q_29, .ref q_34, .ref q_40, .ref q_41, .null, .long 0])), (q_1, .inr (5, [.ref w_5, .int 0])), (w_5, .inl (cI, 130, .inl (fun _ => 0))), (q_6, .inr (2, [.ref w_10, .ref y_11, .ref a_12, .ref u_13, .int 0, .int 0, .int 1, .int 0])), (w_10, .inl (cI, 12, .inl (fun _ => 0))), (y_11, .inl (cI, 12, .inl (fun _ => 0))), (a_12, .inl (cI, 12, .inl (fun _ => 0))), (u_13, .inl (cI, 3, .inl (fun _ => 0))), (q_14, .inr (2, [.ref w_18, .ref y_19, .ref a_20, .ref u_21, .int 0, .int 0, .int 1, .int 0])), (w_18, .inl (cI, 12, .inl (fun _ => 0))), (y_19, .inl (cI, 12, .inl (fun _ => 0))), (a_20, .inl (cI, 12, .inl (fun _ => 0))), (u_21, .inl (cI, 3, .inl (fun _ => 0))), (q_22, .inr (0, [.ref w_26, .ref y_27, .ref a_28, .int 0, .int 0])), (w_26, .inl (cI, 14, .inl (fun _ => 0))), (y_27, .inl (cI, 14, .inl (fun _ => 0))), (a_28, .inl (cI, 14, .inl (fun _ => 0))), (q_29, .inr (1, [.ref w_33, .int 0, .int 0])), (w_33, .inl (cI, 256, .inl (fun _ => 0))), (q_34, .inr (3, [.ref w_38, .ref y_39, .int 0])), (q_40, .inl (cQ, 2, .inr (.inr (.inr (.inr (va_up (va_up (fun _ => none) 0 (some q_43)) 1 (some q_52))))))), (q_43, .inr (2, [.ref w_47, .ref y_48, .ref a_49, .ref u_50, .int 0, .int 0, .int 1, .int 0])), (w_47, .inl (cI, 12, .inl (fun _ => 0))), (y_48, .inl (cI, 12, .inl (fun _ => 0))), (a_49, .inl (cI, 12, .inl (fun _ => 0))), (u_50, .inl (cI, 3, .inl (fun _ => 0))), (q_52, .inr (2, [.ref w_56, .ref y_57, .ref a_58, .ref u_59, .int 0, .int 0, .int 1, .int 0])), (w_56, .inl (cI, 12, .inl (fun _ => 0))), (y_57, .inl (cI, 12, .inl (fun _ => 0))), (a_58, .inl (cI, 12, .inl (fun _ => 0))), (u_59, .inl (cI, 3, .inl (fun _ => 0))), (q_41, .inl (cZ, 2, .inl (fun _ => 0)))]) [0, 1, 2, 3, 4, 5, 6, 7, 8, 9, 10, 11, 12, 13, 14, 15, 16, 17, 18, 19, 20, 22, 23, 24, 25, 26, 27, 28, 29, 30, 31, 21] (by decide) rfl) hS (Nat.le_of_ble_eq_true rfl) (Nat.le_of_ble_eq_true rfl) d_X8_init_111 ⟨q_1, q_6, q_14, q_22, q_29, q_34, q_40, q_41, w_5, w_10, y_11, a_12, u_13, w_18, y_19, a_20, u_21, w_26, y_27, a_28, w_33, w_38, y_39, q_43, q_52, w_47, y_48, a_49, u_50, w_56, y_57, a_58, u_59, rfl⟩
end
section
theorem d_X7_signAt_0 : decode cX7_signAt 0 = .ok (.iload_n 1, 1) := by decide +kernel
theorem d_X7_signAt_1 : decode cX7_signAt 1 = .ok (.ifCond .lt 20, 3) := by decide +kernel
theorem d_X7_signAt_4 : decode cX7_signAt 4 = .ok (.iload_n 1, 1) := by decide +kernel
theorem d_X7_signAt_5 : decode cX7_signAt 5 = .ok (.aload_n 0, 1) := by decide +kernel
theorem d_X7_signAt_6 : decode cX7_signAt 6 = .ok (.getfield 15, 3) := by decide +kernel
theorem k_70 : (.fieldLink RX7 15 "CommonUnits$Text" "length" "I" : Cond) ∈ cu_G := cu_mem 70 (by decide +kernel) (by decide +kernel)
theorem d_X7_signAt_9 : decode cX7_signAt 9 = .ok (.if_icmp .ge 12, 3) := by decide +kernel
theorem d_X7_signAt_21 : decode cX7_signAt 21 = .ok (.iconst (-1), 1) := by decide +kernel
theorem d_X7_signAt_22 : decode cX7_signAt 22 = .ok (.ireturn, 1) := by decide +kernel
theorem d_X7_readInto_0 : decode cX7_readInto 0 = .ok (.aload_n 0, 1) := by decide +kernel
theorem d_X7_readInto_1 : decode cX7_readInto 1 = .ok (.iconst 0, 1) := by decide +kernel
theorem d_X7_readInto_2 : decode cX7_readInto 2 = .ok (.invokevirtual 19, 3) := by decide +kernel
theorem hd_X7_signAt : cu_hd yX7_signAt 1 := by decide +kernel
theorem k_233 : (.code yX7_signAt cX7_signAt 2 (some .int) : Cond) ∈ cu_G := cu_mem 233 (by decide +kernel) (by decide +kernel)
theorem k_230 : (.methodLink RX7 19 yX7_signAt : Cond) ∈ cu_G := cu_mem 230 (by decide +kernel) (by decide +kernel)
theorem k_232 : (.instanceMethod yX7_signAt : Cond) ∈ cu_G := cu_mem 232 (by decide +kernel) (by decide +kernel)
theorem k_0 : (.selects RX7 yX7_signAt yX7_signAt : Cond) ∈ cu_G := cu_mem 0 (by decide +kernel) (by decide +kernel)
theorem d_X7_readInto_5 : decode cX7_readInto 5 = .ok (.bipush 72, 2) := by decide +kernel
theorem d_X7_readInto_7 : decode cX7_readInto 7 = .ok (.if_icmp .eq 5, 3) := by decide +kernel
theorem d_X7_readInto_10 : decode cX7_readInto 10 = .ok (.iconst 0, 1) := by decide +kernel
theorem d_X7_readInto_11 : decode cX7_readInto 11 = .ok (.ireturn, 1) := by decide +kernel
theorem d_X7_append_0 : decode cX7_append 0 = .ok (.aload_n 0, 1) := by decide +kernel
theorem d_X7_append_1 : decode cX7_append 1 = .ok (.getfield 15, 3) := by decide +kernel
theorem d_X7_append_4 : decode cX7_append 4 = .ok (.sipush 130, 3) := by decide +kernel
theorem d_X7_append_7 : decode cX7_append 7 = .ok (.if_icmp .lt 6, 3) := by decide +kernel
theorem d_X7_append_13 : decode cX7_append 13 = .ok (.aload_n 0, 1) := by decide +kernel
theorem d_X7_append_14 : decode cX7_append 14 = .ok (.getfield 9, 3) := by decide +kernel
theorem d_X7_append_17 : decode cX7_append 17 = .ok (.aload_n 0, 1) := by decide +kernel
theorem d_X7_append_18 : decode cX7_append 18 = .ok (.getfield 15, 3) := by decide +kernel
theorem d_X7_append_21 : decode cX7_append 21 = .ok (.iload_n 1, 1) := by decide +kernel
theorem d_X7_append_22 : decode cX7_append 22 = .ok (.iastore, 1) := by decide +kernel
theorem d_X7_append_23 : decode cX7_append 23 = .ok (.aload_n 0, 1) := by decide +kernel
theorem d_X7_append_24 : decode cX7_append 24 = .ok (.dup, 1) := by decide +kernel
theorem d_X7_append_25 : decode cX7_append 25 = .ok (.getfield 15, 3) := by decide +kernel
theorem d_X7_append_28 : decode cX7_append 28 = .ok (.iconst 1, 1) := by decide +kernel
theorem d_X7_append_29 : decode cX7_append 29 = .ok (.iadd, 1) := by decide +kernel
theorem d_X7_append_30 : decode cX7_append 30 = .ok (.putfield 15, 3) := by decide +kernel
theorem d_X7_append_33 : decode cX7_append 33 = .ok (.aload_n 0, 1) := by decide +kernel
theorem d_X7_append_34 : decode cX7_append 34 = .ok (.getfield 15, 3) := by decide +kernel
theorem d_X7_append_37 : decode cX7_append 37 = .ok (.ireturn, 1) := by decide +kernel
theorem d_X0_add_0 : decode cX0_add 0 = .ok (.aload_n 0, 1) := by decide +kernel
theorem d_X0_add_1 : decode cX0_add 1 = .ok (.getfield 9, 3) := by decide +kernel
theorem d_X0_add_4 : decode cX0_add 4 = .ok (.aload_n 0, 1) := by decide +kernel
theorem d_X0_add_5 : decode cX0_add 5 = .ok (.getfield 21, 3) := by decide +kernel
theorem k_130 : (.fieldLink RX0 21 "CommonUnits$Acts" "next" "I" : Cond) ∈ cu_G := cu_mem 130 (by decide +kernel) (by decide +kernel)
theorem d_X0_add_8 : decode cX0_add 8 = .ok (.iload_n 1, 1) := by decide +kernel
theorem d_X0_add_9 : decode cX0_add 9 = .ok (.iastore, 1) := by decide +kernel
theorem d_X0_add_10 : decode cX0_add 10 = .ok (.aload_n 0, 1) := by decide +kernel
theorem d_X0_add_11 : decode cX0_add 11 = .ok (.getfield 15, 3) := by decide +kernel
theorem d_X0_add_14 : decode cX0_add 14 = .ok (.aload_n 0, 1) := by decide +kernel
theorem d_X0_add_15 : decode cX0_add 15 = .ok (.getfield 21, 3) := by decide +kernel
theorem d_X0_add_18 : decode cX0_add 18 = .ok (.iload_n 2, 1) := by decide +kernel
theorem d_X0_add_19 : decode cX0_add 19 = .ok (.iastore, 1) := by decide +kernel
theorem d_X0_add_20 : decode cX0_add 20 = .ok (.aload_n 0, 1) := by decide +kernel
theorem d_X0_add_21 : decode cX0_add 21 = .ok (.getfield 18, 3) := by decide +kernel
theorem d_X0_add_24 : decode cX0_add 24 = .ok (.aload_n 0, 1) := by decide +kernel
theorem d_X0_add_25 : decode cX0_add 25 = .ok (.getfield 21, 3) := by decide +kernel
theorem d_X0_add_28 : decode cX0_add 28 = .ok (.iload_n 3, 1) := by decide +kernel
theorem d_X0_add_29 : decode cX0_add 29 = .ok (.iastore, 1) := by decide +kernel
theorem d_X0_add_30 : decode cX0_add 30 = .ok (.aload_n 0, 1) := by decide +kernel
theorem d_X0_add_31 : decode cX0_add 31 = .ok (.aload_n 0, 1) := by decide +kernel
theorem d_X0_add_32 : decode cX0_add 32 = .ok (.getfield 21, 3) := by decide +kernel
theorem d_X0_add_35 : decode cX0_add 35 = .ok (.iconst 1, 1) := by decide +kernel
theorem d_X0_add_36 : decode cX0_add 36 = .ok (.iadd, 1) := by decide +kernel
theorem d_X0_add_37 : decode cX0_add 37 = .ok (.bipush 14, 2) := by decide +kernel
theorem d_X0_add_39 : decode cX0_add 39 = .ok (.irem, 1) := by decide +kernel
theorem d_X0_add_40 : decode cX0_add 40 = .ok (.putfield 21, 3) := by decide +kernel
theorem d_X0_add_43 : decode cX0_add 43 = .ok (.aload_n 0, 1) := by decide +kernel
theorem d_X0_add_44 : decode cX0_add 44 = .ok (.aload_n 0, 1) := by decide +kernel
theorem d_X0_add_45 : decode cX0_add 45 = .ok (.getfield 25, 3) := by decide +kernel
theorem k_131 : (.fieldLink RX0 25 "CommonUnits$Acts" "size" "I" : Cond) ∈ cu_G := cu_mem 131 (by decide +kernel) (by decide +kernel)
theorem d_X0_add_48 : decode cX0_add 48 = .ok (.iconst 1, 1) := by decide +kernel
theorem d_X0_add_49 : decode cX0_add 49 = .ok (.iadd, 1) := by decide +kernel
theorem d_X0_add_50 : decode cX0_add 50 = .ok (.bipush 14, 2) := by decide +kernel
theorem d_X0_add_52 : decode cX0_add 52 = .ok (.invokestatic 28, 3) := by decide +kernel
theorem k_360 : (.methodLink RX0 28 Lib.Math.min.name : Cond) ∈ cu_G := cu_mem 360 (by decide +kernel) (by decide +kernel)
theorem k_361 : (.static Lib.Math.min.name : Cond) ∈ cu_G := cu_mem 361 (by decide +kernel) (by decide +kernel)
theorem k_52 : (.initialized "java/lang/Math" : Cond) ∈ cu_G := cu_mem 52 (by decide +kernel) (by decide +kernel)
theorem k_362 : (.code Lib.Math.min.name Lib.Math.min.code 2 (some .int) : Cond) ∈ cu_G := cu_mem 362 (by decide +kernel) (by decide +kernel)
theorem d_X0_add_55 : decode cX0_add 55 = .ok (.putfield 25, 3) := by decide +kernel
theorem d_X0_add_58 : decode cX0_add 58 = .ok (.return_, 1) := by decide +kernel
theorem d_X3_exchange_0 : decode cX3_exchange 0 = .ok (.iload_n 2, 1) := by decide +kernel
theorem d_X3_exchange_1 : decode cX3_exchange 1 = .ok (.ifCond .lt 14, 3) := by decide +kernel
theorem d_X3_exchange_15 : decode cX3_exchange 15 = .ok (.iconst (-1), 1) := by decide +kernel
theorem d_X3_exchange_16 : decode cX3_exchange 16 = .ok (.ireturn, 1) := by decide +kernel
theorem d_X3_exchange_4 : decode cX3_exchange 4 = .ok (.iload_n 2, 1) := by decide +kernel
theorem d_X3_exchange_5 : decode cX3_exchange 5 = .ok (.iload_n 1, 1) := by decide +kernel
theorem d_X3_exchange_6 : decode cX3_exchange 6 = .ok (.if_icmp .ge 9, 3) := by decide +kernel
theorem d_X3_put_0 : decode cX3_put 0 = .ok (.bipush (-2), 2) := by decide +kernel
theorem d_X3_put_2 : decode cX3_put 2 = .ok (.istore 4, 2) := by decide +kernel
theorem d_X3_put_4 : decode cX3_put 4 = .ok (.iload_n 1, 1) := by decide +kernel
theorem d_X3_put_5 : decode cX3_put 5 = .ok (.tableswitch 155 0 5 #[39, 57, 74, 90, 108, 132], 39) := by decide +kernel
theorem d_X3_put_44 : decode cX3_put 44 = .ok (.aload_n 0, 1) := by decide +kernel
theorem d_X3_put_45 : decode cX3_put 45 = .ok (.getfield 9, 3) := by decide +kernel
theorem d_X3_put_48 : decode cX3_put 48 = .ok (.aload_n 0, 1) := by decide +kernel
theorem d_X3_put_49 : decode cX3_put 49 = .ok (.getfield 28, 3) := by decide +kernel
theorem d_X3_put_52 : decode cX3_put 52 = .ok (.iload_n 2, 1) := by decide +kernel
theorem d_X3_put_53 : decode cX3_put 53 = .ok (.iload_n 3, 1) := by decide +kernel
theorem d_X3_put_54 : decode cX3_put 54 = .ok (.iconst 1, 1) := by decide +kernel
theorem d_X3_put_55 : decode cX3_put 55 = .ok (.sipush 999, 3) := by decide +kernel
theorem d_X3_put_58 : decode cX3_put 58 = .ok (.invokestatic 45, 3) := by decide +kernel
theorem hd_X3_exchange : cu_hd yX3_exchange 6 := by decide +kernel
theorem k_355 : (.code yX3_exchange cX3_exchange 7 (some .int) : Cond) ∈ cu_G := cu_mem 355 (by decide +kernel) (by decide +kernel)
theorem k_353 : (.methodLink RX3 45 yX3_exchange : Cond) ∈ cu_G := cu_mem 353 (by decide +kernel) (by decide +kernel)
theorem k_354 : (.static yX3_exchange : Cond) ∈ cu_G := cu_mem 354 (by decide +kernel) (by decide +kernel)
theorem d_X3_put_61 : decode cX3_put 61 = .ok (.ireturn, 1) := by decide +kernel
theorem d_X3_put_62 : decode cX3_put 62 = .ok (.aload_n 0, 1) := by decide +kernel
theorem d_X3_put_63 : decode cX3_put 63 = .ok (.getfield 15, 3) := by decide +kernel
theorem d_X3_put_66 : decode cX3_put 66 = .ok (.aload_n 0, 1) := by decide +kernel
theorem d_X3_put_67 : decode cX3_put 67 = .ok (.getfield 28, 3) := by decide +kernel
theorem d_X3_put_70 : decode cX3_put 70 = .ok (.iload_n 2, 1) := by decide +kernel
theorem d_X3_put_71 : decode cX3_put 71 = .ok (.iload_n 3, 1) := by decide +kernel
theorem d_X3_put_72 : decode cX3_put 72 = .ok (.iconst 0, 1) := by decide +kernel
theorem d_X3_put_73 : decode cX3_put 73 = .ok (.bipush 9, 2) := by decide +kernel
theorem d_X3_put_75 : decode cX3_put 75 = .ok (.invokestatic 45, 3) := by decide +kernel
theorem d_X3_put_78 : decode cX3_put 78 = .ok (.ireturn, 1) := by decide +kernel
theorem d_X3_put_79 : decode cX3_put 79 = .ok (.aload_n 0, 1) := by decide +kernel
theorem d_X3_put_80 : decode cX3_put 80 = .ok (.getfield 18, 3) := by decide +kernel
theorem d_X3_put_83 : decode cX3_put 83 = .ok (.aload_n 0, 1) := by decide +kernel
theorem d_X3_put_84 : decode cX3_put 84 = .ok (.getfield 28, 3) := by decide +kernel
theorem d_X3_put_87 : decode cX3_put 87 = .ok (.iload_n 2, 1) := by decide +kernel
theorem d_X3_put_88 : decode cX3_put 88 = .ok (.iload_n 3, 1) := by decide +kernel
theorem d_X3_put_89 : decode cX3_put 89 = .ok (.iconst 0, 1) := by decide +kernel
theorem d_X3_put_90 : decode cX3_put 90 = .ok (.iconst 1, 1) := by decide +kernel
theorem d_X3_put_91 : decode cX3_put 91 = .ok (.invokestatic 45, 3) := by decide +kernel
theorem d_X3_put_94 : decode cX3_put 94 = .ok (.ireturn, 1) := by decide +kernel
theorem d_X3_put_95 : decode cX3_put 95 = .ok (.aload_n 0, 1) := by decide +kernel
theorem d_X3_put_96 : decode cX3_put 96 = .ok (.getfield 21, 3) := by decide +kernel
theorem d_X3_put_99 : decode cX3_put 99 = .ok (.aload_n 0, 1) := by decide +kernel
theorem d_X3_put_100 : decode cX3_put 100 = .ok (.getfield 31, 3) := by decide +kernel
theorem d_X3_put_103 : decode cX3_put 103 = .ok (.iload_n 2, 1) := by decide +kernel
theorem d_X3_put_104 : decode cX3_put 104 = .ok (.iload_n 3, 1) := by decide +kernel
theorem d_X3_put_105 : decode cX3_put 105 = .ok (.iconst 1, 1) := by decide +kernel
theorem d_X3_put_106 : decode cX3_put 106 = .ok (.sipush 999, 3) := by decide +kernel
theorem d_X3_put_109 : decode cX3_put 109 = .ok (.invokestatic 45, 3) := by decide +kernel
theorem d_X3_put_112 : decode cX3_put 112 = .ok (.ireturn, 1) := by decide +kernel
theorem d_X3_put_113 : decode cX3_put 113 = .ok (.iload_n 3, 1) := by decide +kernel
theorem d_X3_put_114 : decode cX3_put 114 = .ok (.ifCond .lt 20, 3) := by decide +kernel
theorem d_X3_put_134 : decode cX3_put 134 = .ok (.iload 4, 2) := by decide +kernel
theorem d_X3_put_136 : decode cX3_put 136 = .ok (.ireturn, 1) := by decide +kernel
theorem d_X3_put_117 : decode cX3_put 117 = .ok (.iload_n 3, 1) := by decide +kernel
theorem d_X3_put_118 : decode cX3_put 118 = .ok (.bipush 9, 2) := by decide +kernel
theorem d_X3_put_120 : decode cX3_put 120 = .ok (.if_icmp .gt 14, 3) := by decide +kernel
theorem d_X3_put_123 : decode cX3_put 123 = .ok (.aload_n 0, 1) := by decide +kernel
theorem d_X3_put_124 : decode cX3_put 124 = .ok (.getfield 24, 3) := by decide +kernel
theorem d_X3_put_127 : decode cX3_put 127 = .ok (.istore 4, 2) := by decide +kernel
theorem d_X3_put_129 : decode cX3_put 129 = .ok (.aload_n 0, 1) := by decide +kernel
theorem d_X3_put_130 : decode cX3_put 130 = .ok (.iload_n 3, 1) := by decide +kernel
theorem d_X3_put_131 : decode cX3_put 131 = .ok (.putfield 24, 3) := by decide +kernel
theorem d_X3_put_137 : decode cX3_put 137 = .ok (.iload_n 3, 1) := by decide +kernel
theorem d_X3_put_138 : decode cX3_put 138 = .ok (.ifCond .lt 19, 3) := by decide +kernel
theorem d_X3_put_157 : decode cX3_put 157 = .ok (.iload 4, 2) := by decide +kernel
theorem d_X3_put_159 : decode cX3_put 159 = .ok (.ireturn, 1) := by decide +kernel
theorem d_X3_put_141 : decode cX3_put 141 = .ok (.iload_n 3, 1) := by decide +kernel
theorem d_X3_put_142 : decode cX3_put 142 = .ok (.iconst 2, 1) := by decide +kernel
theorem d_X3_put_143 : decode cX3_put 143 = .ok (.if_icmp .gt 14, 3) := by decide +kernel
theorem d_X3_put_146 : decode cX3_put 146 = .ok (.aload_n 0, 1) := by decide +kernel
theorem d_X3_put_147 : decode cX3_put 147 = .ok (.getfield 34, 3) := by decide +kernel
theorem k_102 : (.fieldLink RX3 34 "CommonUnits$Hoard" "law" "I" : Cond) ∈ cu_G := cu_mem 102 (by decide +kernel) (by decide +kernel)
theorem d_X3_put_150 : decode cX3_put 150 = .ok (.istore 4, 2) := by decide +kernel
theorem d_X3_put_152 : decode cX3_put 152 = .ok (.aload_n 0, 1) := by decide +kernel
theorem d_X3_put_153 : decode cX3_put 153 = .ok (.iload_n 3, 1) := by decide +kernel
theorem d_X3_put_154 : decode cX3_put 154 = .ok (.putfield 34, 3) := by decide +kernel
theorem d_X8_act_0 : decode cX8_act 0 = .ok (.aload_n 0, 1) := by decide +kernel
theorem d_X8_act_1 : decode cX8_act 1 = .ok (.getfield 19, 3) := by decide +kernel
theorem d_X8_act_4 : decode cX8_act 4 = .ok (.iload_n 1, 1) := by decide +kernel
theorem d_X8_act_5 : decode cX8_act 5 = .ok (.iload_n 2, 1) := by decide +kernel
theorem d_X8_act_6 : decode cX8_act 6 = .ok (.iload_n 3, 1) := by decide +kernel
theorem d_X8_act_7 : decode cX8_act 7 = .ok (.invokevirtual 128, 3) := by decide +kernel
theorem hd_X3_put : cu_hd yX3_put 3 := by decide +kernel
theorem k_352 : (.code yX3_put cX3_put 5 (some .int) : Cond) ∈ cu_G := cu_mem 352 (by decide +kernel) (by decide +kernel)
theorem k_349 : (.methodLink RX8 128 yX3_put : Cond) ∈ cu_G := cu_mem 349 (by decide +kernel) (by decide +kernel)
theorem k_350 : (.instanceMethod yX3_put : Cond) ∈ cu_G := cu_mem 350 (by decide +kernel) (by decide +kernel)
theorem k_351 : (.selects RX3 yX3_put yX3_put : Cond) ∈ cu_G := cu_mem 351 (by decide +kernel) (by decide +kernel)
theorem d_X8_act_10 : decode cX8_act 10 = .ok (.istore 4, 2) := by decide +kernel
theorem d_X8_act_12 : decode cX8_act 12 = .ok (.iload 4, 2) := by decide +kernel
theorem d_X8_act_14 : decode cX8_act 14 = .ok (.ifCond .lt 14, 3) := by decide +kernel
theorem d_X8_act_28 : decode cX8_act 28 = .ok (.iload 4, 2) := by decide +kernel
theorem d_X8_act_30 : decode cX8_act 30 = .ok (.ireturn, 1) := by decide +kernel
theorem d_X8_act_17 : decode cX8_act 17 = .ok (.aload_n 0, 1) := by decide +kernel
theorem d_X8_act_18 : decode cX8_act 18 = .ok (.getfield 29, 3) := by decide +kernel
theorem d_X8_act_21 : decode cX8_act 21 = .ok (.iload_n 1, 1) := by decide +kernel
theorem d_X8_act_22 : decode cX8_act 22 = .ok (.iload_n 2, 1) := by decide +kernel
theorem d_X8_act_23 : decode cX8_act 23 = .ok (.iload 4, 2) := by decide +kernel
theorem d_X8_act_25 : decode cX8_act 25 = .ok (.invokevirtual 131, 3) := by decide +kernel
theorem hd_X0_add : cu_hd yX0_add 3 := by decide +kernel
theorem k_359 : (.code yX0_add cX0_add 4 none : Cond) ∈ cu_G := cu_mem 359 (by decide +kernel) (by decide +kernel)
theorem k_356 : (.methodLink RX8 131 yX0_add : Cond) ∈ cu_G := cu_mem 356 (by decide +kernel) (by decide +kernel)
theorem k_357 : (.instanceMethod yX0_add : Cond) ∈ cu_G := cu_mem 357 (by decide +kernel) (by decide +kernel)
theorem k_358 : (.selects RX0 yX0_add yX0_add : Cond) ∈ cu_G := cu_mem 358 (by decide +kernel) (by decide +kernel)
theorem d_X8_write_0 : decode cX8_write 0 = .ok (.iload_n 1, 1) := by decide +kernel
theorem d_X8_write_1 : decode cX8_write 1 = .ok (.ifCond .lt 10, 3) := by decide +kernel
theorem d_X8_write_11 : decode cX8_write 11 = .ok (.bipush (-2), 2) := by decide +kernel
theorem d_X8_write_13 : decode cX8_write 13 = .ok (.goto 11, 3) := by decide +kernel
theorem d_X8_write_24 : decode cX8_write 24 = .ok (.ireturn, 1) := by decide +kernel
theorem d_X8_write_4 : decode cX8_write 4 = .ok (.iload_n 1, 1) := by decide +kernel
theorem d_X8_write_5 : decode cX8_write 5 = .ok (.sipush 255, 3) := by decide +kernel
theorem d_X8_write_8 : decode cX8_write 8 = .ok (.if_icmp .le 8, 3) := by decide +kernel
theorem d_X8_write_16 : decode cX8_write 16 = .ok (.aload_n 0, 1) := by decide +kernel
theorem d_X8_write_17 : decode cX8_write 17 = .ok (.getfield 12, 3) := by decide +kernel
theorem d_X8_write_20 : decode cX8_write 20 = .ok (.iload_n 1, 1) := by decide +kernel
theorem d_X8_write_21 : decode cX8_write 21 = .ok (.invokevirtual 55, 3) := by decide +kernel
theorem hd_X7_append : cu_hd yX7_append 1 := by decide +kernel
theorem k_217 : (.code yX7_append cX7_append 2 (some .int) : Cond) ∈ cu_G := cu_mem 217 (by decide +kernel) (by decide +kernel)
theorem k_214 : (.methodLink RX8 55 yX7_append : Cond) ∈ cu_G := cu_mem 214 (by decide +kernel) (by decide +kernel)
theorem k_215 : (.instanceMethod yX7_append : Cond) ∈ cu_G := cu_mem 215 (by decide +kernel) (by decide +kernel)
theorem k_216 : (.selects RX7 yX7_append yX7_append : Cond) ∈ cu_G := cu_mem 216 (by decide +kernel) (by decide +kernel)
theorem d_X8_wipe_0 : decode cX8_wipe 0 = .ok (.aload_n 0, 1) := by decide +kernel
theorem d_X8_wipe_1 : decode cX8_wipe 1 = .ok (.getfield 12, 3) := by decide +kernel
theorem d_X8_wipe_4 : decode cX8_wipe 4 = .ok (.getfield 59, 3) := by decide +kernel
theorem k_71 : (.fieldLink RX8 59 "CommonUnits$Text" "length" "I" : Cond) ∈ cu_G := cu_mem 71 (by decide +kernel) (by decide +kernel)
theorem d_X8_wipe_7 : decode cX8_wipe 7 = .ok (.istore_n 1, 1) := by decide +kernel
theorem d_X8_wipe_8 : decode cX8_wipe 8 = .ok (.aload_n 0, 1) := by decide +kernel
theorem d_X8_wipe_9 : decode cX8_wipe 9 = .ok (.getfield 12, 3) := by decide +kernel
theorem d_X8_wipe_12 : decode cX8_wipe 12 = .ok (.iconst 0, 1) := by decide +kernel
theorem d_X8_wipe_13 : decode cX8_wipe 13 = .ok (.putfield 59, 3) := by decide +kernel
theorem d_X8_wipe_16 : decode cX8_wipe 16 = .ok (.iload_n 1, 1) := by decide +kernel
theorem d_X8_wipe_17 : decode cX8_wipe 17 = .ok (.ireturn, 1) := by decide +kernel
theorem d_X8_fault_0 : decode cX8_fault 0 = .ok (.aload_n 0, 1) := by decide +kernel
theorem d_X8_fault_1 : decode cX8_fault 1 = .ok (.getfield 12, 3) := by decide +kernel
theorem d_X8_fault_4 : decode cX8_fault 4 = .ok (.aload_n 0, 1) := by decide +kernel
theorem d_X8_fault_5 : decode cX8_fault 5 = .ok (.getfield 23, 3) := by decide +kernel
theorem d_X8_fault_8 : decode cX8_fault 8 = .ok (.invokevirtual 63, 3) := by decide +kernel
theorem hd_X7_readInto : cu_hd yX7_readInto 1 := by decide +kernel
theorem k_229 : (.code yX7_readInto cX7_readInto 4 (some .int) : Cond) ∈ cu_G := cu_mem 229 (by decide +kernel) (by decide +kernel)
theorem k_226 : (.methodLink RX8 63 yX7_readInto : Cond) ∈ cu_G := cu_mem 226 (by decide +kernel) (by decide +kernel)
theorem k_227 : (.instanceMethod yX7_readInto : Cond) ∈ cu_G := cu_mem 227 (by decide +kernel) (by decide +kernel)
theorem k_228 : (.selects RX7 yX7_readInto yX7_readInto : Cond) ∈ cu_G := cu_mem 228 (by decide +kernel) (by decide +kernel)
theorem d_X8_fault_11 : decode cX8_fault 11 = .ok (.ireturn, 1) := by decide +kernel
theorem d_X8_hoard_0 : decode cX8_hoard 0 = .ok (.aload_n 0, 1) := by decide +kernel
theorem d_X8_hoard_1 : decode cX8_hoard 1 = .ok (.getfield 12, 3) := by decide +kernel
theorem d_X8_hoard_4 : decode cX8_hoard 4 = .ok (.aload_n 0, 1) := by decide +kernel
theorem d_X8_hoard_5 : decode cX8_hoard 5 = .ok (.getfield 23, 3) := by decide +kernel
theorem d_X8_hoard_8 : decode cX8_hoard 8 = .ok (.invokevirtual 63, 3) := by decide +kernel
theorem d_X8_hoard_11 : decode cX8_hoard 11 = .ok (.bipush (-9), 2) := by decide +kernel
theorem d_X8_hoard_13 : decode cX8_hoard 13 = .ok (.if_icmp .eq 6, 3) := by decide +kernel
theorem d_X8_hoard_16 : decode cX8_hoard 16 = .ok (.bipush (-3), 2) := by decide +kernel
theorem d_X8_hoard_18 : decode cX8_hoard 18 = .ok (.ireturn, 1) := by decide +kernel
theorem d_X8_coin_0 : decode cX8_coin 0 = .ok (.aload_n 0, 1) := by decide +kernel
theorem d_X8_coin_1 : decode cX8_coin 1 = .ok (.getfield 19, 3) := by decide +kernel
theorem d_X8_coin_4 : decode cX8_coin 4 = .ok (.iload_n 1, 1) := by decide +kernel
theorem d_X8_coin_5 : decode cX8_coin 5 = .ok (.invokevirtual 77, 3) := by decide +kernel
theorem k_278 : (.methodLink RX8 77 yX3_hasCoin : Cond) ∈ cu_G := cu_mem 278 (by decide +kernel) (by decide +kernel)
theorem d_X8_coin_8 : decode cX8_coin 8 = .ok (.ifCond .ne 5, 3) := by decide +kernel
theorem d_X8_coin_11 : decode cX8_coin 11 = .ok (.iconst (-1), 1) := by decide +kernel
theorem d_X8_coin_12 : decode cX8_coin 12 = .ok (.ireturn, 1) := by decide +kernel
theorem d_X8_mint_0 : decode cX8_mint 0 = .ok (.aload_n 0, 1) := by decide +kernel
theorem d_X8_mint_1 : decode cX8_mint 1 = .ok (.getfield 19, 3) := by decide +kernel
theorem d_X8_mint_4 : decode cX8_mint 4 = .ok (.iload_n 1, 1) := by decide +kernel
theorem d_X8_mint_5 : decode cX8_mint 5 = .ok (.invokevirtual 100, 3) := by decide +kernel
theorem k_318 : (.methodLink RX8 100 yX3_hasMint : Cond) ∈ cu_G := cu_mem 318 (by decide +kernel) (by decide +kernel)
theorem d_X8_mint_8 : decode cX8_mint 8 = .ok (.ifCond .ne 5, 3) := by decide +kernel
theorem d_X8_mint_11 : decode cX8_mint 11 = .ok (.iconst (-1), 1) := by decide +kernel
theorem d_X8_mint_12 : decode cX8_mint 12 = .ok (.ireturn, 1) := by decide +kernel
theorem d_X8_clean_0 : decode cX8_clean 0 = .ok (.aload_n 0, 1) := by decide +kernel
theorem d_X8_clean_1 : decode cX8_clean 1 = .ok (.iconst 0, 1) := by decide +kernel
theorem d_X8_clean_2 : decode cX8_clean 2 = .ok (.iload_n 1, 1) := by decide +kernel
theorem d_X8_clean_3 : decode cX8_clean 3 = .ok (.iload_n 2, 1) := by decide +kernel
theorem d_X8_clean_4 : decode cX8_clean 4 = .ok (.invokevirtual 118, 3) := by decide +kernel
theorem hd_X8_act : cu_hd yX8_act 3 := by decide +kernel
theorem k_348 : (.code yX8_act cX8_act 5 (some .int) : Cond) ∈ cu_G := cu_mem 348 (by decide +kernel) (by decide +kernel)
theorem k_43 : (.initialized RX8 : Cond) ∈ cu_G := cu_mem 43 (by decide +kernel) (by decide +kernel)
theorem k_345 : (.methodLink RX8 118 yX8_act : Cond) ∈ cu_G := cu_mem 345 (by decide +kernel) (by decide +kernel)
theorem k_347 : (.instanceMethod yX8_act : Cond) ∈ cu_G := cu_mem 347 (by decide +kernel) (by decide +kernel)
theorem k_6 : (.selects RX8 yX8_act yX8_act : Cond) ∈ cu_G := cu_mem 6 (by decide +kernel) (by decide +kernel)
theorem d_X8_clean_7 : decode cX8_clean 7 = .ok (.ireturn, 1) := by decide +kernel
theorem d_X8_date_0 : decode cX8_date 0 = .ok (.aload_n 0, 1) := by decide +kernel
theorem d_X8_date_1 : decode cX8_date 1 = .ok (.iconst 1, 1) := by decide +kernel
theorem d_X8_date_2 : decode cX8_date 2 = .ok (.iload_n 1, 1) := by decide +kernel
theorem d_X8_date_3 : decode cX8_date 3 = .ok (.iload_n 2, 1) := by decide +kernel
theorem d_X8_date_4 : decode cX8_date 4 = .ok (.invokevirtual 118, 3) := by decide +kernel
theorem d_X8_date_7 : decode cX8_date 7 = .ok (.ireturn, 1) := by decide +kernel
theorem d_X8_strike_0 : decode cX8_strike 0 = .ok (.aload_n 0, 1) := by decide +kernel
theorem d_X8_strike_1 : decode cX8_strike 1 = .ok (.iconst 3, 1) := by decide +kernel
theorem d_X8_strike_2 : decode cX8_strike 2 = .ok (.iload_n 1, 1) := by decide +kernel
theorem d_X8_strike_3 : decode cX8_strike 3 = .ok (.iload_n 2, 1) := by decide +kernel
theorem d_X8_strike_4 : decode cX8_strike 4 = .ok (.invokevirtual 118, 3) := by decide +kernel
theorem d_X8_strike_7 : decode cX8_strike 7 = .ok (.ireturn, 1) := by decide +kernel
theorem d_X8_aside_0 : decode cX8_aside 0 = .ok (.aload_n 0, 1) := by decide +kernel
theorem d_X8_aside_1 : decode cX8_aside 1 = .ok (.getfield 19, 3) := by decide +kernel
theorem d_X8_aside_4 : decode cX8_aside 4 = .ok (.iload_n 1, 1) := by decide +kernel
theorem d_X8_aside_5 : decode cX8_aside 5 = .ok (.invokevirtual 77, 3) := by decide +kernel
theorem d_X8_aside_8 : decode cX8_aside 8 = .ok (.ifCond .ne 5, 3) := by decide +kernel
theorem d_X8_aside_11 : decode cX8_aside 11 = .ok (.iconst (-1), 1) := by decide +kernel
theorem d_X8_aside_12 : decode cX8_aside 12 = .ok (.ireturn, 1) := by decide +kernel
theorem d_X8_setRate_0 : decode cX8_setRate 0 = .ok (.aload_n 0, 1) := by decide +kernel
theorem d_X8_setRate_1 : decode cX8_setRate 1 = .ok (.iconst 4, 1) := by decide +kernel
theorem d_X8_setRate_2 : decode cX8_setRate 2 = .ok (.iconst 0, 1) := by decide +kernel
theorem d_X8_setRate_3 : decode cX8_setRate 3 = .ok (.iload_n 1, 1) := by decide +kernel
theorem d_X8_setRate_4 : decode cX8_setRate 4 = .ok (.invokevirtual 118, 3) := by decide +kernel
theorem d_X8_setRate_7 : decode cX8_setRate 7 = .ok (.ireturn, 1) := by decide +kernel
theorem d_X8_setLaw_0 : decode cX8_setLaw 0 = .ok (.aload_n 0, 1) := by decide +kernel
theorem d_X8_setLaw_1 : decode cX8_setLaw 1 = .ok (.iconst 5, 1) := by decide +kernel
theorem d_X8_setLaw_2 : decode cX8_setLaw 2 = .ok (.iconst 0, 1) := by decide +kernel
theorem d_X8_setLaw_3 : decode cX8_setLaw 3 = .ok (.iload_n 1, 1) := by decide +kernel
theorem d_X8_setLaw_4 : decode cX8_setLaw 4 = .ok (.invokevirtual 118, 3) := by decide +kernel
theorem d_X8_setLaw_7 : decode cX8_setLaw 7 = .ok (.ireturn, 1) := by decide +kernel
theorem d_X8_undo_0 : decode cX8_undo 0 = .ok (.aload_n 0, 1) := by decide +kernel
theorem d_X8_undo_1 : decode cX8_undo 1 = .ok (.getfield 29, 3) := by decide +kernel
theorem d_X8_undo_4 : decode cX8_undo 4 = .ok (.getfield 122, 3) := by decide +kernel
theorem k_132 : (.fieldLink RX8 122 "CommonUnits$Acts" "size" "I" : Cond) ∈ cu_G := cu_mem 132 (by decide +kernel) (by decide +kernel)
theorem d_X8_undo_7 : decode cX8_undo 7 = .ok (.ifCond .ne 6, 3) := by decide +kernel
theorem d_X8_undo_10 : decode cX8_undo 10 = .ok (.bipush (-3), 2) := by decide +kernel
theorem d_X8_undo_12 : decode cX8_undo 12 = .ok (.ireturn, 1) := by decide +kernel
theorem d_X8_fits_0 : decode cX8_fits 0 = .ok (.aload_n 0, 1) := by decide +kernel
theorem d_X8_fits_1 : decode cX8_fits 1 = .ok (.getfield 19, 3) := by decide +kernel
theorem d_X8_fits_4 : decode cX8_fits 4 = .ok (.iload_n 1, 1) := by decide +kernel
theorem d_X8_fits_5 : decode cX8_fits 5 = .ok (.invokevirtual 77, 3) := by decide +kernel
theorem d_X8_fits_8 : decode cX8_fits 8 = .ok (.ifCond .ne 5, 3) := by decide +kernel
theorem d_X8_fits_11 : decode cX8_fits 11 = .ok (.iconst (-1), 1) := by decide +kernel
theorem d_X8_fits_12 : decode cX8_fits 12 = .ok (.ireturn, 1) := by decide +kernel
theorem d_X8_chain_0 : decode cX8_chain 0 = .ok (.aload_n 0, 1) := by decide +kernel
theorem d_X8_chain_1 : decode cX8_chain 1 = .ok (.getfield 19, 3) := by decide +kernel
theorem d_X8_chain_4 : decode cX8_chain 4 = .ok (.iload_n 1, 1) := by decide +kernel
theorem d_X8_chain_5 : decode cX8_chain 5 = .ok (.invokevirtual 77, 3) := by decide +kernel
theorem d_X8_chain_8 : decode cX8_chain 8 = .ok (.ifCond .ne 5, 3) := by decide +kernel
theorem d_X8_chain_11 : decode cX8_chain 11 = .ok (.iconst (-1), 1) := by decide +kernel
theorem d_X8_chain_12 : decode cX8_chain 12 = .ok (.ireturn, 1) := by decide +kernel
theorem d_X8_see_0 : decode cX8_see 0 = .ok (.aload_n 0, 1) := by decide +kernel
theorem d_X8_see_1 : decode cX8_see 1 = .ok (.getfield 19, 3) := by decide +kernel
theorem d_X8_see_4 : decode cX8_see 4 = .ok (.iload_n 1, 1) := by decide +kernel
theorem d_X8_see_5 : decode cX8_see 5 = .ok (.invokevirtual 77, 3) := by decide +kernel
theorem d_X8_see_8 : decode cX8_see 8 = .ok (.ifCond .ne 5, 3) := by decide +kernel
theorem d_X8_see_11 : decode cX8_see 11 = .ok (.iconst (-1), 1) := by decide +kernel
theorem d_X8_see_12 : decode cX8_see 12 = .ok (.ireturn, 1) := by decide +kernel
theorem d_X8_unsee_0 : decode cX8_unsee 0 = .ok (.aload_n 0, 1) := by decide +kernel
theorem d_X8_unsee_1 : decode cX8_unsee 1 = .ok (.getfield 43, 3) := by decide +kernel
theorem d_X8_unsee_4 : decode cX8_unsee 4 = .ok (.getfield 206, 3) := by decide +kernel
theorem k_169 : (.fieldLink RX8 206 "CommonUnits$Sightings" "size" "I" : Cond) ∈ cu_G := cu_mem 169 (by decide +kernel) (by decide +kernel)
theorem d_X8_unsee_7 : decode cX8_unsee 7 = .ok (.istore_n 1, 1) := by decide +kernel
theorem d_X8_unsee_8 : decode cX8_unsee 8 = .ok (.aload_n 0, 1) := by decide +kernel
theorem d_X8_unsee_9 : decode cX8_unsee 9 = .ok (.getfield 43, 3) := by decide +kernel
theorem d_X8_unsee_12 : decode cX8_unsee 12 = .ok (.iconst 0, 1) := by decide +kernel
theorem d_X8_unsee_13 : decode cX8_unsee 13 = .ok (.putfield 206, 3) := by decide +kernel
theorem d_X8_unsee_16 : decode cX8_unsee 16 = .ok (.iload_n 1, 1) := by decide +kernel
theorem d_X8_unsee_17 : decode cX8_unsee 17 = .ok (.ireturn, 1) := by decide +kernel
theorem d_X8_share_0 : decode cX8_share 0 = .ok (.aload_n 0, 1) := by decide +kernel
theorem d_X8_share_1 : decode cX8_share 1 = .ok (.getfield 19, 3) := by decide +kernel
theorem d_X8_share_4 : decode cX8_share 4 = .ok (.iload_n 1, 1) := by decide +kernel
theorem d_X8_share_5 : decode cX8_share 5 = .ok (.invokevirtual 77, 3) := by decide +kernel
theorem d_X8_share_8 : decode cX8_share 8 = .ok (.ifCond .ne 5, 3) := by decide +kernel
theorem d_X8_share_11 : decode cX8_share 11 = .ok (.iconst (-1), 1) := by decide +kernel
theorem d_X8_share_12 : decode cX8_share 12 = .ok (.ireturn, 1) := by decide +kernel
theorem d_X8_seed_0 : decode cX8_seed 0 = .ok (.aload_n 0, 1) := by decide +kernel
theorem d_X8_seed_1 : decode cX8_seed 1 = .ok (.getfield 231, 3) := by decide +kernel
theorem k_188 : (.fieldLink RX8 231 "CommonUnits" "state" "J" : Cond) ∈ cu_G := cu_mem 188 (by decide +kernel) (by decide +kernel)
theorem d_X8_seed_4 : decode cX8_seed 4 = .ok (.lstore_n 3, 1) := by decide +kernel
theorem d_X8_seed_5 : decode cX8_seed 5 = .ok (.aload_n 0, 1) := by decide +kernel
theorem d_X8_seed_6 : decode cX8_seed 6 = .ok (.lload_n 1, 1) := by decide +kernel
theorem d_X8_seed_7 : decode cX8_seed 7 = .ok (.putfield 231, 3) := by decide +kernel
theorem d_X8_seed_10 : decode cX8_seed 10 = .ok (.lload_n 3, 1) := by decide +kernel
theorem d_X8_seed_11 : decode cX8_seed 11 = .ok (.lreturn, 1) := by decide +kernel
theorem d_X8_again_0 : decode cX8_again 0 = .ok (.iload_n 1, 1) := by decide +kernel
theorem d_X8_again_1 : decode cX8_again 1 = .ok (.ifCond .lt 8, 3) := by decide +kernel
theorem d_X8_again_9 : decode cX8_again 9 = .ok (.iconst (-1), 1) := by decide +kernel
theorem d_X8_again_10 : decode cX8_again 10 = .ok (.ireturn, 1) := by decide +kernel
theorem d_X8_again_4 : decode cX8_again 4 = .ok (.iload_n 1, 1) := by decide +kernel
theorem d_X8_again_5 : decode cX8_again 5 = .ok (.iconst 2, 1) := by decide +kernel
theorem d_X8_again_6 : decode cX8_again 6 = .ok (.if_icmp .lt 5, 3) := by decide +kernel
theorem d_X8_again_11 : decode cX8_again 11 = .ok (.aload_n 0, 1) := by decide +kernel
theorem d_X8_again_12 : decode cX8_again 12 = .ok (.getfield 51, 3) := by decide +kernel
theorem d_X8_again_15 : decode cX8_again 15 = .ok (.iload_n 1, 1) := by decide +kernel
theorem d_X8_again_16 : decode cX8_again 16 = .ok (.baload, 1) := by decide +kernel
theorem d_X8_again_17 : decode cX8_again 17 = .ok (.ifCond .ne 6, 3) := by decide +kernel
theorem d_X8_again_20 : decode cX8_again 20 = .ok (.bipush (-3), 2) := by decide +kernel
theorem d_X8_again_22 : decode cX8_again 22 = .ok (.ireturn, 1) := by decide +kernel
theorem d_X8_count_0 : decode cX8_count 0 = .ok (.iload_n 1, 1) := by decide +kernel
theorem d_X8_count_1 : decode cX8_count 1 = .ok (.tableswitch 125 0 8 #[51, 59, 67, 75, 83, 91, 99, 109, 117], 51) := by decide +kernel
theorem d_X8_count_52 : decode cX8_count 52 = .ok (.aload_n 0, 1) := by decide +kernel
theorem d_X8_count_53 : decode cX8_count 53 = .ok (.getfield 12, 3) := by decide +kernel
theorem d_X8_count_56 : decode cX8_count 56 = .ok (.getfield 59, 3) := by decide +kernel
theorem d_X8_count_59 : decode cX8_count 59 = .ok (.ireturn, 1) := by decide +kernel
theorem d_X8_count_60 : decode cX8_count 60 = .ok (.aload_n 0, 1) := by decide +kernel
theorem d_X8_count_61 : decode cX8_count 61 = .ok (.getfield 19, 3) := by decide +kernel
theorem d_X8_count_64 : decode cX8_count 64 = .ok (.getfield 74, 3) := by decide +kernel
theorem k_96 : (.fieldLink RX8 74 "CommonUnits$Hoard" "coins" "I" : Cond) ∈ cu_G := cu_mem 96 (by decide +kernel) (by decide +kernel)
theorem d_X8_count_67 : decode cX8_count 67 = .ok (.ireturn, 1) := by decide +kernel
theorem d_X8_count_68 : decode cX8_count 68 = .ok (.aload_n 0, 1) := by decide +kernel
theorem d_X8_count_69 : decode cX8_count 69 = .ok (.getfield 19, 3) := by decide +kernel
theorem d_X8_count_72 : decode cX8_count 72 = .ok (.getfield 152, 3) := by decide +kernel
theorem k_99 : (.fieldLink RX8 152 "CommonUnits$Hoard" "mints" "I" : Cond) ∈ cu_G := cu_mem 99 (by decide +kernel) (by decide +kernel)
theorem d_X8_count_75 : decode cX8_count 75 = .ok (.ireturn, 1) := by decide +kernel
theorem d_X8_count_76 : decode cX8_count 76 = .ok (.aload_n 0, 1) := by decide +kernel
theorem d_X8_count_77 : decode cX8_count 77 = .ok (.getfield 19, 3) := by decide +kernel
theorem d_X8_count_80 : decode cX8_count 80 = .ok (.getfield 242, 3) := by decide +kernel
theorem k_101 : (.fieldLink RX8 242 "CommonUnits$Hoard" "rate" "I" : Cond) ∈ cu_G := cu_mem 101 (by decide +kernel) (by decide +kernel)
theorem d_X8_count_83 : decode cX8_count 83 = .ok (.ireturn, 1) := by decide +kernel
theorem d_X8_count_84 : decode cX8_count 84 = .ok (.aload_n 0, 1) := by decide +kernel
theorem d_X8_count_85 : decode cX8_count 85 = .ok (.getfield 19, 3) := by decide +kernel
theorem d_X8_count_88 : decode cX8_count 88 = .ok (.getfield 245, 3) := by decide +kernel
theorem k_103 : (.fieldLink RX8 245 "CommonUnits$Hoard" "law" "I" : Cond) ∈ cu_G := cu_mem 103 (by decide +kernel) (by decide +kernel)
theorem d_X8_count_91 : decode cX8_count 91 = .ok (.ireturn, 1) := by decide +kernel
theorem d_X8_count_92 : decode cX8_count 92 = .ok (.aload_n 0, 1) := by decide +kernel
theorem d_X8_count_93 : decode cX8_count 93 = .ok (.getfield 19, 3) := by decide +kernel
theorem d_X8_count_96 : decode cX8_count 96 = .ok (.invokevirtual 248, 3) := by decide +kernel
theorem hd_X3_setAside : cu_hd yX3_setAside 0 := by decide +kernel
theorem k_677 : (.code yX3_setAside cX3_setAside 3 (some .int) : Cond) ∈ cu_G := cu_mem 677 (by decide +kernel) (by decide +kernel)
theorem k_674 : (.methodLink RX8 248 yX3_setAside : Cond) ∈ cu_G := cu_mem 674 (by decide +kernel) (by decide +kernel)
theorem k_675 : (.instanceMethod yX3_setAside : Cond) ∈ cu_G := cu_mem 675 (by decide +kernel) (by decide +kernel)
theorem k_676 : (.selects RX3 yX3_setAside yX3_setAside : Cond) ∈ cu_G := cu_mem 676 (by decide +kernel) (by decide +kernel)
theorem d_X8_count_99 : decode cX8_count 99 = .ok (.ireturn, 1) := by decide +kernel
theorem d_X8_count_100 : decode cX8_count 100 = .ok (.aload_n 0, 1) := by decide +kernel
theorem d_X8_count_101 : decode cX8_count 101 = .ok (.getfield 19, 3) := by decide +kernel
theorem d_X8_count_104 : decode cX8_count 104 = .ok (.bipush (-9), 2) := by decide +kernel
theorem d_X8_count_106 : decode cX8_count 106 = .ok (.invokevirtual 106, 3) := by decide +kernel
theorem hd_X3_setOfMint : cu_hd yX3_setOfMint 1 := by decide +kernel
theorem k_325 : (.code yX3_setOfMint cX3_setOfMint 4 (some .int) : Cond) ∈ cu_G := cu_mem 325 (by decide +kernel) (by decide +kernel)
theorem k_322 : (.methodLink RX8 106 yX3_setOfMint : Cond) ∈ cu_G := cu_mem 322 (by decide +kernel) (by decide +kernel)
theorem k_323 : (.instanceMethod yX3_setOfMint : Cond) ∈ cu_G := cu_mem 323 (by decide +kernel) (by decide +kernel)
theorem k_324 : (.selects RX3 yX3_setOfMint yX3_setOfMint : Cond) ∈ cu_G := cu_mem 324 (by decide +kernel) (by decide +kernel)
theorem d_X8_count_109 : decode cX8_count 109 = .ok (.ireturn, 1) := by decide +kernel
theorem d_X8_count_110 : decode cX8_count 110 = .ok (.aload_n 0, 1) := by decide +kernel
theorem d_X8_count_111 : decode cX8_count 111 = .ok (.getfield 29, 3) := by decide +kernel
theorem d_X8_count_114 : decode cX8_count 114 = .ok (.getfield 122, 3) := by decide +kernel
theorem d_X8_count_117 : decode cX8_count 117 = .ok (.ireturn, 1) := by decide +kernel
theorem d_X8_count_118 : decode cX8_count 118 = .ok (.aload_n 0, 1) := by decide +kernel
theorem d_X8_count_119 : decode cX8_count 119 = .ok (.getfield 43, 3) := by decide +kernel
theorem d_X8_count_122 : decode cX8_count 122 = .ok (.getfield 206, 3) := by decide +kernel
theorem d_X8_count_125 : decode cX8_count 125 = .ok (.ireturn, 1) := by decide +kernel
theorem d_X8_count_126 : decode cX8_count 126 = .ok (.bipush (-2), 2) := by decide +kernel
theorem d_X8_count_128 : decode cX8_count 128 = .ok (.ireturn, 1) := by decide +kernel
theorem cu_in2 {x : Int32} (h0 : ¬ x < 0) (h1 : x < 2) : vp_in x 2 := vp_in_iff.mpr (by
  have a := mt cu_lt.mpr h0; have b := cu_lt.mp h1
  have e0 : (0 : Int32).toInt = 0 := by decide
  have e2 : (2 : Int32).toInt = 2 := by decide
  omega)
set_option maxHeartbeats 4000000 in
set_option maxRecDepth 100000 in
theorem c_X7_signAt (l : Launch) (D : va_G) (cI cZ cQ : ClassId) (h w : Nat) : cu_R l D (cu_TY cI cZ cQ) yX7_signAt cX7_signAt 2 .int 0 0 [.ref h, .int 0] [(h, .inr (5, [.ref w, .int 0]))] (fun r => r = (-1)) := by
  refine cu_R.intro (by decide) (Nat.le_of_ble_eq_true rfl) ?_
  intro p e s m args below meth c Q ls S hret hP hK hl
  obtain ⟨hx, hb, hml, hown, hg⟩ := S
  have hown : s.vm.findClass RX7 = some m.cls := hown
  have hl : lv_has ls 2 [(0, .ref h), (1, .int 0)] := hl
  refine lv_iload_n hx hb d_X7_signAt_0 rfl (lv_at hl 1 rfl) ?_
  refine lv_if_lt (tgt := 21) hx hb d_X7_signAt_1 (by decide) (fun c_1 => absurd c_1 (by decide +kernel)) (fun _ => ?_)
  refine lv_iload_n hx hb d_X7_signAt_4 rfl (lv_at hl 1 rfl) ?_
  refine lv_aload_n hx hb d_X7_signAt_5 rfl (lv_at hl 0 rfl) ?_
  refine va_get (D := D) (ci := 5) (v := .int 0) (C := RX7) (T := TX7) (N := 2) hx hb hg cu_iX7 hown hK.1 hP 0 rfl rfl 1 (by decide) (hg _ k_70) (fun _ h9 => h9) rfl d_X7_signAt_6 ?_
  refine lv_icmp_ge (tgt := 21) hx hb d_X7_signAt_9 (by decide) (fun _ => ?_) (fun c_2 => absurd (by decide +kernel) c_2)
  refine lv_iconst (v := (-1)) hx hb d_X7_signAt_21 (by decide) ?_
  exact hret _ _ _ d_X7_signAt_22 (rfl) (rfl)
set_option maxHeartbeats 4000000 in
set_option maxRecDepth 100000 in
theorem c_X7_readInto (l : Launch) (D : va_G) (cI cZ cQ : ClassId) (h w hd : Nat) : cu_R l D (cu_TY cI cZ cQ) yX7_readInto cX7_readInto 4 .int 1 21 [.ref h, .ref hd] [(h, .inr (5, [.ref w, .int 0]))] (fun r => r = 0) := by
  refine cu_R.intro (by decide) (Nat.le_of_ble_eq_true rfl) ?_
  intro p e s m args below meth c Q ls S hret hP hK hl
  obtain ⟨hx, hb, hml, hown, hg⟩ := S
  have hown : s.vm.findClass RX7 = some m.cls := hown
  have hl : lv_has ls 4 [(0, .ref h), (1, .ref hd)] := hl
  refine lv_aload_n hx hb d_X7_readInto_0 rfl (lv_at hl 0 rfl) ?_
  refine lv_iconst (v := 0) hx hb d_X7_readInto_1 (by decide) ?_
  refine cu_VR (wc := [(h, .inr (5, [.ref w, .int 0]))]) (rest := []) [.int 0] ⟨hx, hb, hml, hown, hg⟩ (c_X7_signAt l D cI cZ cQ h w) hd_X7_signAt k_233 k_230 k_232 k_0 k_44 ⟨Nat.le_of_ble_eq_true rfl, Nat.le_of_ble_eq_true rfl⟩ ⟨Nat.le_of_ble_eq_true rfl, Nat.le_of_ble_eq_true rfl⟩ hP hK [0] rfl 0 rfl rfl rfl hl.1 rfl (Nat.le_of_ble_eq_true rfl) d_X7_readInto_2 (fun r_1 hr_2 => ?_)
  subst hr_2
  refine lv_bipush (v := 72) hx hb d_X7_readInto_5 (by decide) ?_
  refine lv_icmp_eq (tgt := 12) hx hb d_X7_readInto_7 (by decide) (fun c_3 => absurd c_3 (by decide +kernel)) (fun _ => ?_)
  refine lv_iconst (v := 0) hx hb d_X7_readInto_10 (by decide) ?_
  exact hret _ _ _ d_X7_readInto_11 (rfl) (rfl)
set_option maxHeartbeats 4000000 in
set_option maxRecDepth 100000 in
theorem c_X7_append (l : Launch) (D : va_G) (cI cZ cQ : ClassId) (h w : Nat) (c1 : Int32) : cu_W l D (cu_TY cI cZ cQ) yX7_append cX7_append 2 .int 0 0 0 0 [.ref h, .int c1] [(h, .inr (5, [.ref w, .int 0])), (w, .inl (cI, 130, .inl (fun _ => 0)))] (fun r ww => (r = 1) ∧ ww = []) := by
  refine cu_W.intro (by decide) (Nat.le_of_ble_eq_true rfl) ?_
  intro p e s m args below meth c Q ls A S hret hP hD hS hA hK hl
  obtain ⟨hx, hb, hml, hown, hg⟩ := S
  have hown : s.vm.findClass RX7 = some m.cls := hown
  have hl : lv_has ls 2 [(0, .ref h), (1, .int c1)] := hl
  refine lv_aload_n hx hb d_X7_append_0 rfl (lv_at hl 0 rfl) ?_
  refine va_get (D := D) (ci := 5) (v := .int 0) (C := RX7) (T := TX7) (N := 2) hx hb hg cu_iX7 hown hK.1 hP 0 rfl rfl 1 (by decide) (hg _ k_70) (fun _ h9 => h9) rfl d_X7_append_1 ?_
  refine lv_sipush (v := 130) hx hb d_X7_append_4 (by decide) ?_
  refine lv_icmp_lt (tgt := 13) hx hb d_X7_append_7 (by decide) (fun _ => ?_) (fun c_1 => absurd (by decide +kernel) c_1)
  refine lv_aload_n hx hb d_X7_append_13 rfl (lv_at hl 0 rfl) ?_
  refine va_get (D := D) (ci := 5) (v := .ref w) (C := RX7) (T := TX7) (N := 2) hx hb hg cu_iX7 hown hK.1 hP 0 rfl rfl 0 (by decide) (hg _ k_69) (fun _ h9 => h9) rfl d_X7_append_14 ?_
  refine lv_aload_n hx hb d_X7_append_17 rfl (lv_at hl 0 rfl) ?_
  refine va_get (D := D) (ci := 5) (v := .int 0) (C := RX7) (T := TX7) (N := 2) hx hb hg cu_iX7 hown hK.1 hP 0 rfl rfl 1 (by decide) (hg _ k_70) (fun _ h9 => h9) rfl d_X7_append_18 ?_
  refine lv_iload_n hx hb d_X7_append_21 rfl (lv_at hl 1 rfl) ?_
  refine va_iast hx hb hK.1 hP hD hS 1 0 rfl rfl (vp_in_nI (n := 0) (N := 130) (Nat.le_of_ble_eq_true rfl) (by decide)) d_X7_append_22 (fun H locs hP hD hS => ?_)
  have hP : va_P D vwCl [(h, .inr (5, [.ref w, .int 0])), (w, .inl (cI, 130, .inl (upd (fun _ => 0) 0 (c1 : Int32))))] H := hP
  have hD : va_D A [(h, .inr (5, [.ref w, .int 0])), (w, .inl (cI, 130, .inl (upd (fun _ => 0) 0 (c1 : Int32))))] := hD
  refine lv_aload_n hx hb d_X7_append_23 rfl (lv_at hl 0 rfl) ?_
  refine lv_dup hx hb d_X7_append_24 rfl ?_
  refine va_get (D := D) (ci := 5) (v := .int 0) (C := RX7) (T := TX7) (N := 2) hx hb hg cu_iX7 hown hK.1 hP 0 rfl rfl 1 (by decide) (hg _ k_70) (fun _ h9 => h9) rfl d_X7_append_25 ?_
  refine lv_iconst (v := 1) hx hb d_X7_append_28 (by decide) ?_
  refine lv_iadd hx hb d_X7_append_29 ?_
  refine cu_topi (y := 1) (by decide +kernel) ?_
  refine va_put (D := D) (ci := 5) (v := .int 1) (ty := .int) (C := RX7) (T := TX7) (N := 2) hx hb hg cu_iX7 tyX7 tyX7_ok nmX7 hown hK.1 hP hD hS 0 rfl rfl 1 (by decide) (hg _ k_70) (fun _ h9 => h9) rfl (by decide +kernel) rfl rfl (Nat.le_of_ble_eq_true rfl) d_X7_append_30 (fun H locs hP hD hS => ?_)
  have hP : va_P D vwCl [(h, .inr (5, [.ref w, .int 1])), (w, .inl (cI, 130, .inl (upd (fun _ => 0) 0 (c1 : Int32))))] H := hP
  have hD : va_D A [(h, .inr (5, [.ref w, .int 1])), (w, .inl (cI, 130, .inl (upd (fun _ => 0) 0 (c1 : Int32))))] := hD
  refine lv_aload_n hx hb d_X7_append_33 rfl (lv_at hl 0 rfl) ?_
  refine va_get (D := D) (ci := 5) (v := .int 1) (C := RX7) (T := TX7) (N := 2) hx hb hg cu_iX7 hown hK.1 hP 0 rfl rfl 1 (by decide) (hg _ k_70) (fun _ h9 => h9) rfl d_X7_append_34 ?_
  exact hret _ _ _ _ [] _ _ _ (hP.sub (ws' := []) [] rfl) (hD.sub (ws' := []) [] (by decide) rfl) hS (Nat.le_of_ble_eq_true rfl) (Nat.le_of_ble_eq_true rfl) d_X7_append_37 (rfl) ⟨rfl, rfl⟩
set_option maxHeartbeats 4000000 in
set_option maxRecDepth 100000 in
theorem c_X0_add (l : Launch) (D : va_G) (cI cZ cQ : ClassId) (h w y a : Nat) (c1 c2 c3 : Int32) : cu_V l D (cu_TY cI cZ cQ) yX0_add cX0_add 4 1 14 0 0 [.ref h, .int c1, .int c2, .int c3] [(h, .inr (0, [.ref w, .ref y, .ref a, .int 0, .int 0])), (w, .inl (cI, 14, .inl (fun _ => 0))), (y, .inl (cI, 14, .inl (fun _ => 0))), (a, .inl (cI, 14, .inl (fun _ => 0)))] (fun ww => ww = []) := by
  refine cu_V.intro (by decide) (Nat.le_of_ble_eq_true rfl) ?_
  intro p e s m args below meth c Q ls A S hin hret hP hD hS hA hK hl
  obtain ⟨hx, hb, hml, hown, hg⟩ := S
  have hown : s.vm.findClass RX0 = some m.cls := hown
  have hin : meth.name = "add" := hin
  have hl : lv_has ls 4 [(0, .ref h), (1, .int c1), (2, .int c2), (3, .int c3)] := hl
  refine lv_aload_n hx hb d_X0_add_0 rfl (lv_at hl 0 rfl) ?_
  refine va_get (D := D) (ci := 0) (v := .ref w) (C := RX0) (T := TX0) (N := 5) hx hb hg cu_iX0 hown hK.1 hP 0 rfl rfl 0 (by decide) (hg _ k_127) (fun _ h9 => h9) rfl d_X0_add_1 ?_
  refine lv_aload_n hx hb d_X0_add_4 rfl (lv_at hl 0 rfl) ?_
  refine va_get (D := D) (ci := 0) (v := .int 0) (C := RX0) (T := TX0) (N := 5) hx hb hg cu_iX0 hown hK.1 hP 0 rfl rfl 3 (by decide) (hg _ k_130) (fun _ h9 => h9) rfl d_X0_add_5 ?_
  refine lv_iload_n hx hb d_X0_add_8 rfl (lv_at hl 1 rfl) ?_
  refine va_iast hx hb hK.1 hP hD hS 1 0 rfl rfl (vp_in_nI (n := 0) (N := 14) (Nat.le_of_ble_eq_true rfl) (by decide)) d_X0_add_9 (fun H locs hP hD hS => ?_)
  have hP : va_P D vwCl [(h, .inr (0, [.ref w, .ref y, .ref a, .int 0, .int 0])), (w, .inl (cI, 14, .inl (upd (fun _ => 0) 0 (c1 : Int32)))), (y, .inl (cI, 14, .inl (fun _ => 0))), (a, .inl (cI, 14, .inl (fun _ => 0)))] H := hP
  have hD : va_D A [(h, .inr (0, [.ref w, .ref y, .ref a, .int 0, .int 0])), (w, .inl (cI, 14, .inl (upd (fun _ => 0) 0 (c1 : Int32)))), (y, .inl (cI, 14, .inl (fun _ => 0))), (a, .inl (cI, 14, .inl (fun _ => 0)))] := hD
  refine lv_aload_n hx hb d_X0_add_10 rfl (lv_at hl 0 rfl) ?_
  refine va_get (D := D) (ci := 0) (v := .ref y) (C := RX0) (T := TX0) (N := 5) hx hb hg cu_iX0 hown hK.1 hP 0 rfl rfl 1 (by decide) (hg _ k_128) (fun _ h9 => h9) rfl d_X0_add_11 ?_
  refine lv_aload_n hx hb d_X0_add_14 rfl (lv_at hl 0 rfl) ?_
  refine va_get (D := D) (ci := 0) (v := .int 0) (C := RX0) (T := TX0) (N := 5) hx hb hg cu_iX0 hown hK.1 hP 0 rfl rfl 3 (by decide) (hg _ k_130) (fun _ h9 => h9) rfl d_X0_add_15 ?_
  refine lv_iload_n hx hb d_X0_add_18 rfl (lv_at hl 2 rfl) ?_
  refine va_iast hx hb hK.1 hP hD hS 2 0 rfl rfl (vp_in_nI (n := 0) (N := 14) (Nat.le_of_ble_eq_true rfl) (by decide)) d_X0_add_19 (fun H locs hP hD hS => ?_)
  have hP : va_P D vwCl [(h, .inr (0, [.ref w, .ref y, .ref a, .int 0, .int 0])), (w, .inl (cI, 14, .inl (upd (fun _ => 0) 0 (c1 : Int32)))), (y, .inl (cI, 14, .inl (upd (fun _ => 0) 0 (c2 : Int32)))), (a, .inl (cI, 14, .inl (fun _ => 0)))] H := hP
  have hD : va_D A [(h, .inr (0, [.ref w, .ref y, .ref a, .int 0, .int 0])), (w, .inl (cI, 14, .inl (upd (fun _ => 0) 0 (c1 : Int32)))), (y, .inl (cI, 14, .inl (upd (fun _ => 0) 0 (c2 : Int32)))), (a, .inl (cI, 14, .inl (fun _ => 0)))] := hD
  refine lv_aload_n hx hb d_X0_add_20 rfl (lv_at hl 0 rfl) ?_
  refine va_get (D := D) (ci := 0) (v := .ref a) (C := RX0) (T := TX0) (N := 5) hx hb hg cu_iX0 hown hK.1 hP 0 rfl rfl 2 (by decide) (hg _ k_129) (fun _ h9 => h9) rfl d_X0_add_21 ?_
  refine lv_aload_n hx hb d_X0_add_24 rfl (lv_at hl 0 rfl) ?_
  refine va_get (D := D) (ci := 0) (v := .int 0) (C := RX0) (T := TX0) (N := 5) hx hb hg cu_iX0 hown hK.1 hP 0 rfl rfl 3 (by decide) (hg _ k_130) (fun _ h9 => h9) rfl d_X0_add_25 ?_
  refine lv_iload_n hx hb d_X0_add_28 rfl (lv_at hl 3 rfl) ?_
  refine va_iast hx hb hK.1 hP hD hS 3 0 rfl rfl (vp_in_nI (n := 0) (N := 14) (Nat.le_of_ble_eq_true rfl) (by decide)) d_X0_add_29 (fun H locs hP hD hS => ?_)
  have hP : va_P D vwCl [(h, .inr (0, [.ref w, .ref y, .ref a, .int 0, .int 0])), (w, .inl (cI, 14, .inl (upd (fun _ => 0) 0 (c1 : Int32)))), (y, .inl (cI, 14, .inl (upd (fun _ => 0) 0 (c2 : Int32)))), (a, .inl (cI, 14, .inl (upd (fun _ => 0) 0 (c3 : Int32))))] H := hP
  have hD : va_D A [(h, .inr (0, [.ref w, .ref y, .ref a, .int 0, .int 0])), (w, .inl (cI, 14, .inl (upd (fun _ => 0) 0 (c1 : Int32)))), (y, .inl (cI, 14, .inl (upd (fun _ => 0) 0 (c2 : Int32)))), (a, .inl (cI, 14, .inl (upd (fun _ => 0) 0 (c3 : Int32))))] := hD
  refine lv_aload_n hx hb d_X0_add_30 rfl (lv_at hl 0 rfl) ?_
  refine lv_aload_n hx hb d_X0_add_31 rfl (lv_at hl 0 rfl) ?_
  refine va_get (D := D) (ci := 0) (v := .int 0) (C := RX0) (T := TX0) (N := 5) hx hb hg cu_iX0 hown hK.1 hP 0 rfl rfl 3 (by decide) (hg _ k_130) (fun _ h9 => h9) rfl d_X0_add_32 ?_
  refine lv_iconst (v := 1) hx hb d_X0_add_35 (by decide) ?_
  refine lv_iadd hx hb d_X0_add_36 ?_
  refine cu_topi (y := 1) (by decide +kernel) ?_
  refine lv_bipush (v := 14) hx hb d_X0_add_37 (by decide) ?_
  refine lv_irem hx hb d_X0_add_39 (by decide) ?_
  refine cu_topi (y := 1) (by decide +kernel) ?_
  refine va_put (D := D) (ci := 0) (v := .int 1) (ty := .int) (C := RX0) (T := TX0) (N := 5) hx hb hg cu_iX0 tyX0 tyX0_ok nmX0 hown hK.1 hP hD hS 0 rfl rfl 3 (by decide) (hg _ k_130) (fun _ h9 => h9) rfl (by decide +kernel) rfl rfl (Nat.le_of_ble_eq_true rfl) d_X0_add_40 (fun H locs hP hD hS => ?_)
  have hP : va_P D vwCl [(h, .inr (0, [.ref w, .ref y, .ref a, .int 1, .int 0])), (w, .inl (cI, 14, .inl (upd (fun _ => 0) 0 (c1 : Int32)))), (y, .inl (cI, 14, .inl (upd (fun _ => 0) 0 (c2 : Int32)))), (a, .inl (cI, 14, .inl (upd (fun _ => 0) 0 (c3 : Int32))))] H := hP
  have hD : va_D A [(h, .inr (0, [.ref w, .ref y, .ref a, .int 1, .int 0])), (w, .inl (cI, 14, .inl (upd (fun _ => 0) 0 (c1 : Int32)))), (y, .inl (cI, 14, .inl (upd (fun _ => 0) 0 (c2 : Int32)))), (a, .inl (cI, 14, .inl (upd (fun _ => 0) 0 (c3 : Int32))))] := hD
  refine lv_aload_n hx hb d_X0_add_43 rfl (lv_at hl 0 rfl) ?_
  refine lv_aload_n hx hb d_X0_add_44 rfl (lv_at hl 0 rfl) ?_
  refine va_get (D := D) (ci := 0) (v := .int 0) (C := RX0) (T := TX0) (N := 5) hx hb hg cu_iX0 hown hK.1 hP 0 rfl rfl 4 (by decide) (hg _ k_131) (fun _ h9 => h9) rfl d_X0_add_45 ?_
  refine lv_iconst (v := 1) hx hb d_X0_add_48 (by decide) ?_
  refine lv_iadd hx hb d_X0_add_49 ?_
  refine cu_topi (y := 1) (by decide +kernel) ?_
  refine lv_bipush (v := 14) hx hb d_X0_add_50 (by decide) ?_
  refine va_mmin hx hb (by rw [hml, hl.1]) hown (hg _ k_360) (hg _ k_361) (hg _ k_52) (hg _ k_362) (Nat.le_of_ble_eq_true rfl) (Nat.le_of_ble_eq_true rfl) (Nat.le_of_ble_eq_true rfl) (Nat.le_of_ble_eq_true rfl) d_X0_add_52 ?_
  refine cu_topi (y := 1) (by decide +kernel) ?_
  refine va_put (D := D) (ci := 0) (v := .int 1) (ty := .int) (C := RX0) (T := TX0) (N := 5) hx hb hg cu_iX0 tyX0 tyX0_ok nmX0 hown hK.1 hP hD hS 0 rfl rfl 4 (by decide) (hg _ k_131) (fun _ h9 => h9) rfl (by decide +kernel) rfl rfl (Nat.le_of_ble_eq_true rfl) d_X0_add_55 (fun H locs hP hD hS => ?_)
  have hP : va_P D vwCl [(h, .inr (0, [.ref w, .ref y, .ref a, .int 1, .int 1])), (w, .inl (cI, 14, .inl (upd (fun _ => 0) 0 (c1 : Int32)))), (y, .inl (cI, 14, .inl (upd (fun _ => 0) 0 (c2 : Int32)))), (a, .inl (cI, 14, .inl (upd (fun _ => 0) 0 (c3 : Int32))))] H := hP
  have hD : va_D A [(h, .inr (0, [.ref w, .ref y, .ref a, .int 1, .int 1])), (w, .inl (cI, 14, .inl (upd (fun _ => 0) 0 (c1 : Int32)))), (y, .inl (cI, 14, .inl (upd (fun _ => 0) 0 (c2 : Int32)))), (a, .inl (cI, 14, .inl (upd (fun _ => 0) 0 (c3 : Int32))))] := hD
  exact hret _ _ _ _ [] _ _ (hP.sub (ws' := []) [] rfl) (hD.sub (ws' := []) [] (by decide) rfl) hS (Nat.le_of_ble_eq_true rfl) (Nat.le_of_ble_eq_true rfl) d_X0_add_58 rfl
set_option maxHeartbeats 4000000 in
set_option maxRecDepth 100000 in
theorem c_X3_exchange (l : Launch) (D : va_G) (cI cZ cQ : ClassId) (h : Nat) (c1 c2 c3 c4 : Int32) : cu_R l D (cu_TY cI cZ cQ) yX3_exchange cX3_exchange 7 .int 0 0 [.ref h, .int 0, .int c1, .int c2, .int c3, .int c4] [] (fun r => r = (-1)) := by
  refine cu_R.intro (by decide) (Nat.le_of_ble_eq_true rfl) ?_
  intro p e s m args below meth c Q ls S hret hP hK hl
  obtain ⟨hx, hb, hml, hown, hg⟩ := S
  have hown : s.vm.findClass RX3 = some m.cls := hown
  have hl : lv_has ls 7 [(0, .ref h), (1, .int 0), (2, .int c1), (3, .int c2), (4, .int c3), (5, .int c4)] := hl
  refine lv_iload_n hx hb d_X3_exchange_0 rfl (lv_at hl 2 rfl) ?_
  refine lv_if_lt (tgt := 15) hx hb d_X3_exchange_1 (by decide) (fun c_1 => ?_) (fun c_1 => ?_)
  · skip
    refine lv_iconst (v := (-1)) hx hb d_X3_exchange_15 (by decide) ?_
    exact hret _ _ _ d_X3_exchange_16 (rfl) (rfl)
  · skip
    refine lv_iload_n hx hb d_X3_exchange_4 rfl (lv_at hl 2 rfl) ?_
    refine lv_iload_n hx hb d_X3_exchange_5 rfl (lv_at hl 1 rfl) ?_
    refine lv_icmp_ge (tgt := 15) hx hb d_X3_exchange_6 (by decide) (fun _ => ?_) (fun c_2 => absurd (Int32.not_lt.mp c_1) c_2)
    refine lv_iconst (v := (-1)) hx hb d_X3_exchange_15 (by decide) ?_
    exact hret _ _ _ d_X3_exchange_16 (rfl) (rfl)
set_option maxHeartbeats 4000000 in
set_option maxRecDepth 100000 in
theorem c_X3_put0 (l : Launch) (D : va_G) (cI cZ cQ : ClassId) (h w y a u : Nat) (rt lw : Int32) (c1 c2 : Int32) : cu_R l D (cu_TY cI cZ cQ) yX3_put cX3_put 5 .int 1 26 [.ref h, .int 0, .int c1, .int c2] [(h, .inr (2, [.ref w, .ref y, .ref a, .ref u, .int 0, .int 0, .int rt, .int lw]))] (fun r => r = (-1)) := by
  refine cu_R.intro (by decide) (Nat.le_of_ble_eq_true rfl) ?_
  intro p e s m args below meth c Q ls S hret hP hK hl
  obtain ⟨hx, hb, hml, hown, hg⟩ := S
  have hown : s.vm.findClass RX3 = some m.cls := hown
  have hl : lv_has ls 5 [(0, .ref h), (1, .int 0), (2, .int c1), (3, .int c2)] := hl
  refine lv_bipush (v := (-2)) hx hb d_X3_put_0 (by decide) ?_
  refine lv_istore (lv' := [(4, .int (-2)), (0, .ref h), (1, .int 0), (2, .int c1), (3, .int c2)]) hx hb d_X3_put_2 hl (by decide) rfl (fun ls hl => ?_)
  refine lv_iload_n hx hb d_X3_put_4 rfl (lv_at hl 2 rfl) ?_
  refine lv_tableIn (off := 39) (tgt := 44) hx hb d_X3_put_5 (by decide) (by decide) (by decide +kernel) (by decide) ?_
  refine lv_aload_n hx hb d_X3_put_44 rfl (lv_at hl 1 rfl) ?_
  refine va_get (D := D) (ci := 2) (v := .ref w) (C := RX3) (T := TX3) (N := 8) hx hb hg cu_iX3 hown hK.1 hP 0 rfl rfl 0 (by decide) (hg _ k_84) (fun _ h9 => h9) rfl d_X3_put_45 ?_
  refine lv_aload_n hx hb d_X3_put_48 rfl (lv_at hl 1 rfl) ?_
  refine va_get (D := D) (ci := 2) (v := .int 0) (C := RX3) (T := TX3) (N := 8) hx hb hg cu_iX3 hown hK.1 hP 0 rfl rfl 4 (by decide) (hg _ k_94) (fun _ h9 => h9) rfl d_X3_put_49 ?_
  refine lv_iload_n hx hb d_X3_put_52 rfl (lv_at hl 3 rfl) ?_
  refine lv_iload_n hx hb d_X3_put_53 rfl (lv_at hl 4 rfl) ?_
  refine lv_iconst (v := 1) hx hb d_X3_put_54 (by decide) ?_
  refine lv_sipush (v := 999) hx hb d_X3_put_55 (by decide) ?_
  refine cu_SR (wc := []) (rest := []) [.ref w, .int 0, .int c1, .int c2, .int 1, .int 999] ⟨hx, hb, hml, hown, hg⟩ (c_X3_exchange l D cI cZ cQ w c1 c2 1 999) hd_X3_exchange k_355 k_353 k_354 k_45 ⟨Nat.le_of_ble_eq_true rfl, Nat.le_of_ble_eq_true rfl⟩ ⟨Nat.le_of_ble_eq_true rfl, Nat.le_of_ble_eq_true rfl⟩ hP hK [] rfl rfl hl.1 rfl (Nat.le_of_ble_eq_true rfl) d_X3_put_58 (fun r_1 hr_2 => ?_)
  subst hr_2
  exact hret _ _ _ d_X3_put_61 (rfl) (rfl)
set_option maxHeartbeats 4000000 in
set_option maxRecDepth 100000 in
theorem c_X3_put1 (l : Launch) (D : va_G) (cI cZ cQ : ClassId) (h w y a u : Nat) (rt lw : Int32) (c1 c2 : Int32) : cu_R l D (cu_TY cI cZ cQ) yX3_put cX3_put 5 .int 1 26 [.ref h, .int 1, .int c1, .int c2] [(h, .inr (2, [.ref w, .ref y, .ref a, .ref u, .int 0, .int 0, .int rt, .int lw]))] (fun r => r = (-1)) := by
  refine cu_R.intro (by decide) (Nat.le_of_ble_eq_true rfl) ?_
  intro p e s m args below meth c Q ls S hret hP hK hl
  obtain ⟨hx, hb, hml, hown, hg⟩ := S
  have hown : s.vm.findClass RX3 = some m.cls := hown
  have hl : lv_has ls 5 [(0, .ref h), (1, .int 1), (2, .int c1), (3, .int c2)] := hl
  refine lv_bipush (v := (-2)) hx hb d_X3_put_0 (by decide) ?_
  refine lv_istore (lv' := [(4, .int (-2)), (0, .ref h), (1, .int 1), (2, .int c1), (3, .int c2)]) hx hb d_X3_put_2 hl (by decide) rfl (fun ls hl => ?_)
  refine lv_iload_n hx hb d_X3_put_4 rfl (lv_at hl 2 rfl) ?_
  refine lv_tableIn (off := 57) (tgt := 62) hx hb d_X3_put_5 (by decide) (by decide) (by decide +kernel) (by decide) ?_
  refine lv_aload_n hx hb d_X3_put_62 rfl (lv_at hl 1 rfl) ?_
  refine va_get (D := D) (ci := 2) (v := .ref y) (C := RX3) (T := TX3) (N := 8) hx hb hg cu_iX3 hown hK.1 hP 0 rfl rfl 1 (by decide) (hg _ k_87) (fun _ h9 => h9) rfl d_X3_put_63 ?_
  refine lv_aload_n hx hb d_X3_put_66 rfl (lv_at hl 1 rfl) ?_
  refine va_get (D := D) (ci := 2) (v := .int 0) (C := RX3) (T := TX3) (N := 8) hx hb hg cu_iX3 hown hK.1 hP 0 rfl rfl 4 (by decide) (hg _ k_94) (fun _ h9 => h9) rfl d_X3_put_67 ?_
  refine lv_iload_n hx hb d_X3_put_70 rfl (lv_at hl 3 rfl) ?_
  refine lv_iload_n hx hb d_X3_put_71 rfl (lv_at hl 4 rfl) ?_
  refine lv_iconst (v := 0) hx hb d_X3_put_72 (by decide) ?_
  refine lv_bipush (v := 9) hx hb d_X3_put_73 (by decide) ?_
  refine cu_SR (wc := []) (rest := []) [.ref y, .int 0, .int c1, .int c2, .int 0, .int 9] ⟨hx, hb, hml, hown, hg⟩ (c_X3_exchange l D cI cZ cQ y c1 c2 0 9) hd_X3_exchange k_355 k_353 k_354 k_45 ⟨Nat.le_of_ble_eq_true rfl, Nat.le_of_ble_eq_true rfl⟩ ⟨Nat.le_of_ble_eq_true rfl, Nat.le_of_ble_eq_true rfl⟩ hP hK [] rfl rfl hl.1 rfl (Nat.le_of_ble_eq_true rfl) d_X3_put_75 (fun r_1 hr_2 => ?_)
  subst hr_2
  exact hret _ _ _ d_X3_put_78 (rfl) (rfl)
set_option maxHeartbeats 4000000 in
set_option maxRecDepth 100000 in
theorem c_X3_put2 (l : Launch) (D : va_G) (cI cZ cQ : ClassId) (h w y a u : Nat) (rt lw : Int32) (c1 c2 : Int32) : cu_R l D (cu_TY cI cZ cQ) yX3_put cX3_put 5 .int 1 26 [.ref h, .int 2, .int c1, .int c2] [(h, .inr (2, [.ref w, .ref y, .ref a, .ref u, .int 0, .int 0, .int rt, .int lw]))] (fun r => r = (-1)) := by
  refine cu_R.intro (by decide) (Nat.le_of_ble_eq_true rfl) ?_
  intro p e s m args below meth c Q ls S hret hP hK hl
  obtain ⟨hx, hb, hml, hown, hg⟩ := S
  have hown : s.vm.findClass RX3 = some m.cls := hown
  have hl : lv_has ls 5 [(0, .ref h), (1, .int 2), (2, .int c1), (3, .int c2)] := hl
  refine lv_bipush (v := (-2)) hx hb d_X3_put_0 (by decide) ?_
  refine lv_istore (lv' := [(4, .int (-2)), (0, .ref h), (1, .int 2), (2, .int c1), (3, .int c2)]) hx hb d_X3_put_2 hl (by decide) rfl (fun ls hl => ?_)
  refine lv_iload_n hx hb d_X3_put_4 rfl (lv_at hl 2 rfl) ?_
  refine lv_tableIn (off := 74) (tgt := 79) hx hb d_X3_put_5 (by decide) (by decide) (by decide +kernel) (by decide) ?_
  refine lv_aload_n hx hb d_X3_put_79 rfl (lv_at hl 1 rfl) ?_
  refine va_get (D := D) (ci := 2) (v := .ref a) (C := RX3) (T := TX3) (N := 8) hx hb hg cu_iX3 hown hK.1 hP 0 rfl rfl 2 (by decide) (hg _ k_89) (fun _ h9 => h9) rfl d_X3_put_80 ?_
  refine lv_aload_n hx hb d_X3_put_83 rfl (lv_at hl 1 rfl) ?_
  refine va_get (D := D) (ci := 2) (v := .int 0) (C := RX3) (T := TX3) (N := 8) hx hb hg cu_iX3 hown hK.1 hP 0 rfl rfl 4 (by decide) (hg _ k_94) (fun _ h9 => h9) rfl d_X3_put_84 ?_
  refine lv_iload_n hx hb d_X3_put_87 rfl (lv_at hl 3 rfl) ?_
  refine lv_iload_n hx hb d_X3_put_88 rfl (lv_at hl 4 rfl) ?_
  refine lv_iconst (v := 0) hx hb d_X3_put_89 (by decide) ?_
  refine lv_iconst (v := 1) hx hb d_X3_put_90 (by decide) ?_
  refine cu_SR (wc := []) (rest := []) [.ref a, .int 0, .int c1, .int c2, .int 0, .int 1] ⟨hx, hb, hml, hown, hg⟩ (c_X3_exchange l D cI cZ cQ a c1 c2 0 1) hd_X3_exchange k_355 k_353 k_354 k_45 ⟨Nat.le_of_ble_eq_true rfl, Nat.le_of_ble_eq_true rfl⟩ ⟨Nat.le_of_ble_eq_true rfl, Nat.le_of_ble_eq_true rfl⟩ hP hK [] rfl rfl hl.1 rfl (Nat.le_of_ble_eq_true rfl) d_X3_put_91 (fun r_1 hr_2 => ?_)
  subst hr_2
  exact hret _ _ _ d_X3_put_94 (rfl) (rfl)
set_option maxHeartbeats 4000000 in
set_option maxRecDepth 100000 in
theorem c_X3_put3 (l : Launch) (D : va_G) (cI cZ cQ : ClassId) (h w y a u : Nat) (rt lw : Int32) (c1 c2 : Int32) : cu_R l D (cu_TY cI cZ cQ) yX3_put cX3_put 5 .int 1 26 [.ref h, .int 3, .int c1, .int c2] [(h, .inr (2, [.ref w, .ref y, .ref a, .ref u, .int 0, .int 0, .int rt, .int lw]))] (fun r => r = (-1)) := by
  refine cu_R.intro (by decide) (Nat.le_of_ble_eq_true rfl) ?_
  intro p e s m args below meth c Q ls S hret hP hK hl
  obtain ⟨hx, hb, hml, hown, hg⟩ := S
  have hown : s.vm.findClass RX3 = some m.cls := hown
  have hl : lv_has ls 5 [(0, .ref h), (1, .int 3), (2, .int c1), (3, .int c2)] := hl
  refine lv_bipush (v := (-2)) hx hb d_X3_put_0 (by decide) ?_
  refine lv_istore (lv' := [(4, .int (-2)), (0, .ref h), (1, .int 3), (2, .int c1), (3, .int c2)]) hx hb d_X3_put_2 hl (by decide) rfl (fun ls hl => ?_)
  refine lv_iload_n hx hb d_X3_put_4 rfl (lv_at hl 2 rfl) ?_
  refine lv_tableIn (off := 90) (tgt := 95) hx hb d_X3_put_5 (by decide) (by decide) (by decide +kernel) (by decide) ?_
  refine lv_aload_n hx hb d_X3_put_95 rfl (lv_at hl 1 rfl) ?_
  refine va_get (D := D) (ci := 2) (v := .ref u) (C := RX3) (T := TX3) (N := 8) hx hb hg cu_iX3 hown hK.1 hP 0 rfl rfl 3 (by decide) (hg _ k_92) (fun _ h9 => h9) rfl d_X3_put_96 ?_
  refine lv_aload_n hx hb d_X3_put_99 rfl (lv_at hl 1 rfl) ?_
  refine va_get (D := D) (ci := 2) (v := .int 0) (C := RX3) (T := TX3) (N := 8) hx hb hg cu_iX3 hown hK.1 hP 0 rfl rfl 5 (by decide) (hg _ k_97) (fun _ h9 => h9) rfl d_X3_put_100 ?_
  refine lv_iload_n hx hb d_X3_put_103 rfl (lv_at hl 3 rfl) ?_
  refine lv_iload_n hx hb d_X3_put_104 rfl (lv_at hl 4 rfl) ?_
  refine lv_iconst (v := 1) hx hb d_X3_put_105 (by decide) ?_
  refine lv_sipush (v := 999) hx hb d_X3_put_106 (by decide) ?_
  refine cu_SR (wc := []) (rest := []) [.ref u, .int 0, .int c1, .int c2, .int 1, .int 999] ⟨hx, hb, hml, hown, hg⟩ (c_X3_exchange l D cI cZ cQ u c1 c2 1 999) hd_X3_exchange k_355 k_353 k_354 k_45 ⟨Nat.le_of_ble_eq_true rfl, Nat.le_of_ble_eq_true rfl⟩ ⟨Nat.le_of_ble_eq_true rfl, Nat.le_of_ble_eq_true rfl⟩ hP hK [] rfl rfl hl.1 rfl (Nat.le_of_ble_eq_true rfl) d_X3_put_109 (fun r_1 hr_2 => ?_)
  subst hr_2
  exact hret _ _ _ d_X3_put_112 (rfl) (rfl)
def cu_s9 (v : Int32) : Int32 := if v < 0 then (-2) else if 9 < v then (-2) else 1
def cu_s2 (v lw : Int32) : Int32 := if v < 0 then (-2) else if 2 < v then (-2) else lw
set_option maxHeartbeats 4000000 in
set_option maxRecDepth 100000 in
theorem c_X3_put4 (l : Launch) (D : va_G) (cI cZ cQ : ClassId) (h w y a u : Nat) (lw c1 v : Int32) : cu_W l D (cu_TY cI cZ cQ) yX3_put cX3_put 5 .int 0 0 0 0 [.ref h, .int 4, .int c1, .int v] [(h, .inr (2, [.ref w, .ref y, .ref a, .ref u, .int 0, .int 0, .int 1, .int lw]))] (fun r ww => (r = cu_s9 v) ∧ ww = []) := by
  refine cu_W.intro (by decide) (Nat.le_of_ble_eq_true rfl) ?_
  intro p e s m args below meth c Q ls A S hret hP hD hS hA hK hl
  obtain ⟨hx, hb, hml, hown, hg⟩ := S
  have hown : s.vm.findClass RX3 = some m.cls := hown
  have hl : lv_has ls 5 [(0, .ref h), (1, .int 4), (2, .int c1), (3, .int v)] := hl
  refine lv_bipush (v := (-2)) hx hb d_X3_put_0 (by decide) ?_
  refine lv_istore (lv' := [(4, .int (-2)), (0, .ref h), (1, .int 4), (2, .int c1), (3, .int v)]) hx hb d_X3_put_2 hl (by decide) rfl (fun ls hl => ?_)
  refine lv_iload_n hx hb d_X3_put_4 rfl (lv_at hl 2 rfl) ?_
  refine lv_tableIn (off := 108) (tgt := 113) hx hb d_X3_put_5 (by decide) (by decide) (by decide +kernel) (by decide) ?_
  refine lv_iload_n hx hb d_X3_put_113 rfl (lv_at hl 4 rfl) ?_
  refine lv_if_lt (tgt := 134) hx hb d_X3_put_114 (by decide) (fun c_1 => ?_) (fun c_1 => ?_)
  · skip
    refine lv_iload hx hb d_X3_put_134 (lv_at hl 0 rfl) ?_
    exact hret _ _ _ _ [] _ _ _ (hP.sub (ws' := []) [] rfl) (hD.sub (ws' := []) [] (by decide) rfl) hS (Nat.le_of_ble_eq_true rfl) (Nat.le_of_ble_eq_true rfl) d_X3_put_136 (rfl) ⟨by unfold cu_s9; rw [if_pos c_1], rfl⟩
  · skip
    refine lv_iload_n hx hb d_X3_put_117 rfl (lv_at hl 4 rfl) ?_
    refine lv_bipush (v := 9) hx hb d_X3_put_118 (by decide) ?_
    refine lv_icmp_gt (tgt := 134) hx hb d_X3_put_120 (by decide) (fun c_2 => ?_) (fun c_2 => ?_)
    · skip
      refine lv_iload hx hb d_X3_put_134 (lv_at hl 0 rfl) ?_
      exact hret _ _ _ _ [] _ _ _ (hP.sub (ws' := []) [] rfl) (hD.sub (ws' := []) [] (by decide) rfl) hS (Nat.le_of_ble_eq_true rfl) (Nat.le_of_ble_eq_true rfl) d_X3_put_136 (rfl) ⟨by unfold cu_s9; rw [if_neg c_1, if_pos c_2], rfl⟩
    · skip
      refine lv_aload_n hx hb d_X3_put_123 rfl (lv_at hl 1 rfl) ?_
      refine va_get (D := D) (ci := 2) (v := .int 1) (C := RX3) (T := TX3) (N := 8) hx hb hg cu_iX3 hown hK.1 hP 0 rfl rfl 6 (by decide) (hg _ k_100) (fun _ h9 => h9) rfl d_X3_put_124 ?_
      refine lv_istore (lv' := [(4, .int 1), (0, .ref h), (1, .int 4), (2, .int c1), (3, .int v)]) hx hb d_X3_put_127 hl (by decide) rfl (fun ls hl => ?_)
      refine lv_aload_n hx hb d_X3_put_129 rfl (lv_at hl 1 rfl) ?_
      refine lv_iload_n hx hb d_X3_put_130 rfl (lv_at hl 4 rfl) ?_
      refine va_put (D := D) (ci := 2) (v := .int v) (ty := .int) (C := RX3) (T := TX3) (N := 8) hx hb hg cu_iX3 tyX3 tyX3_ok nmX3 hown hK.1 hP hD hS 0 rfl rfl 6 (by decide) (hg _ k_100) (fun _ h9 => h9) rfl (by decide +kernel) rfl rfl (Nat.le_of_ble_eq_true rfl) d_X3_put_131 (fun H locs hP hD hS => ?_)
      have hP : va_P D vwCl [(h, .inr (2, [.ref w, .ref y, .ref a, .ref u, .int 0, .int 0, .int v, .int lw]))] H := hP
      have hD : va_D A [(h, .inr (2, [.ref w, .ref y, .ref a, .ref u, .int 0, .int 0, .int v, .int lw]))] := hD
      refine lv_iload hx hb d_X3_put_134 (lv_at hl 0 rfl) ?_
      exact hret _ _ _ _ [] _ _ _ (hP.sub (ws' := []) [] rfl) (hD.sub (ws' := []) [] (by decide) rfl) hS (Nat.le_of_ble_eq_true rfl) (Nat.le_of_ble_eq_true rfl) d_X3_put_136 (rfl) ⟨by unfold cu_s9; rw [if_neg c_1, if_neg c_2], rfl⟩
set_option maxHeartbeats 4000000 in
set_option maxRecDepth 100000 in
theorem c_X3_put5 (l : Launch) (D : va_G) (cI cZ cQ : ClassId) (h w y a u : Nat) (rt lw : Int32) (c1 v : Int32) : cu_W l D (cu_TY cI cZ cQ) yX3_put cX3_put 5 .int 0 0 0 0 [.ref h, .int 5, .int c1, .int v] [(h, .inr (2, [.ref w, .ref y, .ref a, .ref u, .int 0, .int 0, .int rt, .int lw]))] (fun r ww => (r = cu_s2 v lw) ∧ ∃ lz : Int32, ((¬ lw < 0) → ¬ lz < 0) ∧ ww = [(h, .inr (2, [.ref w, .ref y, .ref a, .ref u, .int 0, .int 0, .int rt, .int lz]))]) := by
  refine cu_W.intro (by decide) (Nat.le_of_ble_eq_true rfl) ?_
  intro p e s m args below meth c Q ls A S hret hP hD hS hA hK hl
  obtain ⟨hx, hb, hml, hown, hg⟩ := S
  have hown : s.vm.findClass RX3 = some m.cls := hown
  have hl : lv_has ls 5 [(0, .ref h), (1, .int 5), (2, .int c1), (3, .int v)] := hl
  refine lv_bipush (v := (-2)) hx hb d_X3_put_0 (by decide) ?_
  refine lv_istore (lv' := [(4, .int (-2)), (0, .ref h), (1, .int 5), (2, .int c1), (3, .int v)]) hx hb d_X3_put_2 hl (by decide) rfl (fun ls hl => ?_)
  refine lv_iload_n hx hb d_X3_put_4 rfl (lv_at hl 2 rfl) ?_
  refine lv_tableIn (off := 132) (tgt := 137) hx hb d_X3_put_5 (by decide) (by decide) (by decide +kernel) (by decide) ?_
  refine lv_iload_n hx hb d_X3_put_137 rfl (lv_at hl 4 rfl) ?_
  refine lv_if_lt (tgt := 157) hx hb d_X3_put_138 (by decide) (fun c_1 => ?_) (fun c_1 => ?_)
  · skip
    refine lv_iload hx hb d_X3_put_157 (lv_at hl 0 rfl) ?_
    exact hret _ _ _ _ [(h, .inr (2, [.ref w, .ref y, .ref a, .ref u, .int 0, .int 0, .int rt, .int lw]))] _ _ _ (hP.sub (ws' := [(h, .inr (2, [.ref w, .ref y, .ref a, .ref u, .int 0, .int 0, .int rt, .int lw]))]) [0] rfl) (hD.sub (ws' := [(h, .inr (2, [.ref w, .ref y, .ref a, .ref u, .int 0, .int 0, .int rt, .int lw]))]) [0] (by decide) rfl) hS (Nat.le_of_ble_eq_true rfl) (Nat.le_of_ble_eq_true rfl) d_X3_put_159 (rfl) ⟨by unfold cu_s2; rw [if_pos c_1], lw, fun h9 => h9, rfl⟩
  · skip
    refine lv_iload_n hx hb d_X3_put_141 rfl (lv_at hl 4 rfl) ?_
    refine lv_iconst (v := 2) hx hb d_X3_put_142 (by decide) ?_
    refine lv_icmp_gt (tgt := 157) hx hb d_X3_put_143 (by decide) (fun c_2 => ?_) (fun c_2 => ?_)
    · skip
      refine lv_iload hx hb d_X3_put_157 (lv_at hl 0 rfl) ?_
      exact hret _ _ _ _ [(h, .inr (2, [.ref w, .ref y, .ref a, .ref u, .int 0, .int 0, .int rt, .int lw]))] _ _ _ (hP.sub (ws' := [(h, .inr (2, [.ref w, .ref y, .ref a, .ref u, .int 0, .int 0, .int rt, .int lw]))]) [0] rfl) (hD.sub (ws' := [(h, .inr (2, [.ref w, .ref y, .ref a, .ref u, .int 0, .int 0, .int rt, .int lw]))]) [0] (by decide) rfl) hS (Nat.le_of_ble_eq_true rfl) (Nat.le_of_ble_eq_true rfl) d_X3_put_159 (rfl) ⟨by unfold cu_s2; rw [if_neg c_1, if_pos c_2], lw, fun h9 => h9, rfl⟩
    · skip
      refine lv_aload_n hx hb d_X3_put_146 rfl (lv_at hl 1 rfl) ?_
      refine va_get (D := D) (ci := 2) (v := .int lw) (C := RX3) (T := TX3) (N := 8) hx hb hg cu_iX3 hown hK.1 hP 0 rfl rfl 7 (by decide) (hg _ k_102) (fun _ h9 => h9) rfl d_X3_put_147 ?_
      refine lv_istore (lv' := [(4, .int lw), (0, .ref h), (1, .int 5), (2, .int c1), (3, .int v)]) hx hb d_X3_put_150 hl (by decide) rfl (fun ls hl => ?_)
      refine lv_aload_n hx hb d_X3_put_152 rfl (lv_at hl 1 rfl) ?_
      refine lv_iload_n hx hb d_X3_put_153 rfl (lv_at hl 4 rfl) ?_
      refine va_put (D := D) (ci := 2) (v := .int v) (ty := .int) (C := RX3) (T := TX3) (N := 8) hx hb hg cu_iX3 tyX3 tyX3_ok nmX3 hown hK.1 hP hD hS 0 rfl rfl 7 (by decide) (hg _ k_102) (fun _ h9 => h9) rfl (by decide +kernel) rfl rfl (Nat.le_of_ble_eq_true rfl) d_X3_put_154 (fun H locs hP hD hS => ?_)
      have hP : va_P D vwCl [(h, .inr (2, [.ref w, .ref y, .ref a, .ref u, .int 0, .int 0, .int rt, .int v]))] H := hP
      have hD : va_D A [(h, .inr (2, [.ref w, .ref y, .ref a, .ref u, .int 0, .int 0, .int rt, .int v]))] := hD
      refine lv_iload hx hb d_X3_put_157 (lv_at hl 0 rfl) ?_
      exact hret _ _ _ _ [(h, .inr (2, [.ref w, .ref y, .ref a, .ref u, .int 0, .int 0, .int rt, .int v]))] _ _ _ (hP.sub (ws' := [(h, .inr (2, [.ref w, .ref y, .ref a, .ref u, .int 0, .int 0, .int rt, .int v]))]) [0] rfl) (hD.sub (ws' := [(h, .inr (2, [.ref w, .ref y, .ref a, .ref u, .int 0, .int 0, .int rt, .int v]))]) [0] (by decide) rfl) hS (Nat.le_of_ble_eq_true rfl) (Nat.le_of_ble_eq_true rfl) d_X3_put_159 (rfl) ⟨by unfold cu_s2; rw [if_neg c_1, if_neg c_2], v, fun _ => c_1, rfl⟩
set_option maxHeartbeats 4000000 in
set_option maxRecDepth 100000 in
theorem c_X8_act0 (l : Launch) (D : va_G) (cI cZ cQ : ClassId) (x tx nw sp ac cr sg sl fl : Nat) (w y a u : Nat) (c1 c2 : Int32) : cu_R l D (cu_TY cI cZ cQ) yX8_act cX8_act 5 .int 2 50 [.ref x, .int 0, .int c1, .int c2] [(x, .inr (6, [.ref tx, .ref nw, .ref sp, .ref ac, .ref cr, .ref sg, .ref sl, .ref fl, .null, .long 0])), (nw, .inr (2, [.ref w, .ref y, .ref a, .ref u, .int 0, .int 0, .int 1, .int 0]))] (fun r => r = (-1)) := by
  refine cu_R.intro (by decide) (Nat.le_of_ble_eq_true rfl) ?_
  intro p e s m args below meth c Q ls S hret hP hK hl
  obtain ⟨hx, hb, hml, hown, hg⟩ := S
  have hown : s.vm.findClass RX8 = some m.cls := hown
  have hl : lv_has ls 5 [(0, .ref x), (1, .int 0), (2, .int c1), (3, .int c2)] := hl
  refine lv_aload_n hx hb d_X8_act_0 rfl (lv_at hl 0 rfl) ?_
  refine va_get (D := D) (ci := 6) (v := .ref nw) (C := RX8) (T := TX8) (N := 10) hx hb hg cu_iX8 hown hK.1 hP 0 rfl rfl 1 (by decide) (hg _ k_180) (fun _ h9 => h9) rfl d_X8_act_1 ?_
  refine lv_iload_n hx hb d_X8_act_4 rfl (lv_at hl 1 rfl) ?_
  refine lv_iload_n hx hb d_X8_act_5 rfl (lv_at hl 2 rfl) ?_
  refine lv_iload_n hx hb d_X8_act_6 rfl (lv_at hl 3 rfl) ?_
  refine cu_VR (wc := [(nw, .inr (2, [.ref w, .ref y, .ref a, .ref u, .int 0, .int 0, .int 1, .int 0]))]) (rest := []) [.int 0, .int c1, .int c2] ⟨hx, hb, hml, hown, hg⟩ (c_X3_put0 l D cI cZ cQ nw w y a u 1 0 c1 c2) hd_X3_put k_352 k_349 k_350 k_351 k_45 ⟨Nat.le_of_ble_eq_true rfl, Nat.le_of_ble_eq_true rfl⟩ ⟨Nat.le_of_ble_eq_true rfl, Nat.le_of_ble_eq_true rfl⟩ hP hK [1] rfl 0 rfl rfl rfl hl.1 rfl (Nat.le_of_ble_eq_true rfl) d_X8_act_7 (fun r_1 hr_2 => ?_)
  subst hr_2
  refine lv_istore (lv' := [(4, .int (-1)), (0, .ref x), (1, .int 0), (2, .int c1), (3, .int c2)]) hx hb d_X8_act_10 hl (by decide) rfl (fun ls hl => ?_)
  refine lv_iload hx hb d_X8_act_12 (lv_at hl 0 rfl) ?_
  refine lv_if_lt (tgt := 28) hx hb d_X8_act_14 (by decide) (fun _ => ?_) (fun c_3 => absurd (by decide +kernel) c_3)
  refine lv_iload hx hb d_X8_act_28 (lv_at hl 0 rfl) ?_
  exact hret _ _ _ d_X8_act_30 (rfl) (rfl)
set_option maxHeartbeats 4000000 in
set_option maxRecDepth 100000 in
theorem c_X8_act1 (l : Launch) (D : va_G) (cI cZ cQ : ClassId) (x tx nw sp ac cr sg sl fl : Nat) (w y a u : Nat) (c1 c2 : Int32) : cu_R l D (cu_TY cI cZ cQ) yX8_act cX8_act 5 .int 2 50 [.ref x, .int 1, .int c1, .int c2] [(x, .inr (6, [.ref tx, .ref nw, .ref sp, .ref ac, .ref cr, .ref sg, .ref sl, .ref fl, .null, .long 0])), (nw, .inr (2, [.ref w, .ref y, .ref a, .ref u, .int 0, .int 0, .int 1, .int 0]))] (fun r => r = (-1)) := by
  refine cu_R.intro (by decide) (Nat.le_of_ble_eq_true rfl) ?_
  intro p e s m args below meth c Q ls S hret hP hK hl
  obtain ⟨hx, hb, hml, hown, hg⟩ := S
  have hown : s.vm.findClass RX8 = some m.cls := hown
  have hl : lv_has ls 5 [(0, .ref x), (1, .int 1), (2, .int c1), (3, .int c2)] := hl
  refine lv_aload_n hx hb d_X8_act_0 rfl (lv_at hl 0 rfl) ?_
  refine va_get (D := D) (ci := 6) (v := .ref nw) (C := RX8) (T := TX8) (N := 10) hx hb hg cu_iX8 hown hK.1 hP 0 rfl rfl 1 (by decide) (hg _ k_180) (fun _ h9 => h9) rfl d_X8_act_1 ?_
  refine lv_iload_n hx hb d_X8_act_4 rfl (lv_at hl 1 rfl) ?_
  refine lv_iload_n hx hb d_X8_act_5 rfl (lv_at hl 2 rfl) ?_
  refine lv_iload_n hx hb d_X8_act_6 rfl (lv_at hl 3 rfl) ?_
  refine cu_VR (wc := [(nw, .inr (2, [.ref w, .ref y, .ref a, .ref u, .int 0, .int 0, .int 1, .int 0]))]) (rest := []) [.int 1, .int c1, .int c2] ⟨hx, hb, hml, hown, hg⟩ (c_X3_put1 l D cI cZ cQ nw w y a u 1 0 c1 c2) hd_X3_put k_352 k_349 k_350 k_351 k_45 ⟨Nat.le_of_ble_eq_true rfl, Nat.le_of_ble_eq_true rfl⟩ ⟨Nat.le_of_ble_eq_true rfl, Nat.le_of_ble_eq_true rfl⟩ hP hK [1] rfl 0 rfl rfl rfl hl.1 rfl (Nat.le_of_ble_eq_true rfl) d_X8_act_7 (fun r_1 hr_2 => ?_)
  subst hr_2
  refine lv_istore (lv' := [(4, .int (-1)), (0, .ref x), (1, .int 1), (2, .int c1), (3, .int c2)]) hx hb d_X8_act_10 hl (by decide) rfl (fun ls hl => ?_)
  refine lv_iload hx hb d_X8_act_12 (lv_at hl 0 rfl) ?_
  refine lv_if_lt (tgt := 28) hx hb d_X8_act_14 (by decide) (fun _ => ?_) (fun c_3 => absurd (by decide +kernel) c_3)
  refine lv_iload hx hb d_X8_act_28 (lv_at hl 0 rfl) ?_
  exact hret _ _ _ d_X8_act_30 (rfl) (rfl)
set_option maxHeartbeats 4000000 in
set_option maxRecDepth 100000 in
theorem c_X8_act2 (l : Launch) (D : va_G) (cI cZ cQ : ClassId) (x tx nw sp ac cr sg sl fl : Nat) (w y a u : Nat) (c1 c2 : Int32) : cu_R l D (cu_TY cI cZ cQ) yX8_act cX8_act 5 .int 2 50 [.ref x, .int 2, .int c1, .int c2] [(x, .inr (6, [.ref tx, .ref nw, .ref sp, .ref ac, .ref cr, .ref sg, .ref sl, .ref fl, .null, .long 0])), (nw, .inr (2, [.ref w, .ref y, .ref a, .ref u, .int 0, .int 0, .int 1, .int 0]))] (fun r => r = (-1)) := by
  refine cu_R.intro (by decide) (Nat.le_of_ble_eq_true rfl) ?_
  intro p e s m args below meth c Q ls S hret hP hK hl
  obtain ⟨hx, hb, hml, hown, hg⟩ := S
  have hown : s.vm.findClass RX8 = some m.cls := hown
  have hl : lv_has ls 5 [(0, .ref x), (1, .int 2), (2, .int c1), (3, .int c2)] := hl
  refine lv_aload_n hx hb d_X8_act_0 rfl (lv_at hl 0 rfl) ?_
  refine va_get (D := D) (ci := 6) (v := .ref nw) (C := RX8) (T := TX8) (N := 10) hx hb hg cu_iX8 hown hK.1 hP 0 rfl rfl 1 (by decide) (hg _ k_180) (fun _ h9 => h9) rfl d_X8_act_1 ?_
  refine lv_iload_n hx hb d_X8_act_4 rfl (lv_at hl 1 rfl) ?_
  refine lv_iload_n hx hb d_X8_act_5 rfl (lv_at hl 2 rfl) ?_
  refine lv_iload_n hx hb d_X8_act_6 rfl (lv_at hl 3 rfl) ?_
  refine cu_VR (wc := [(nw, .inr (2, [.ref w, .ref y, .ref a, .ref u, .int 0, .int 0, .int 1, .int 0]))]) (rest := []) [.int 2, .int c1, .int c2] ⟨hx, hb, hml, hown, hg⟩ (c_X3_put2 l D cI cZ cQ nw w y a u 1 0 c1 c2) hd_X3_put k_352 k_349 k_350 k_351 k_45 ⟨Nat.le_of_ble_eq_true rfl, Nat.le_of_ble_eq_true rfl⟩ ⟨Nat.le_of_ble_eq_true rfl, Nat.le_of_ble_eq_true rfl⟩ hP hK [1] rfl 0 rfl rfl rfl hl.1 rfl (Nat.le_of_ble_eq_true rfl) d_X8_act_7 (fun r_1 hr_2 => ?_)
  subst hr_2
  refine lv_istore (lv' := [(4, .int (-1)), (0, .ref x), (1, .int 2), (2, .int c1), (3, .int c2)]) hx hb d_X8_act_10 hl (by decide) rfl (fun ls hl => ?_)
  refine lv_iload hx hb d_X8_act_12 (lv_at hl 0 rfl) ?_
  refine lv_if_lt (tgt := 28) hx hb d_X8_act_14 (by decide) (fun _ => ?_) (fun c_3 => absurd (by decide +kernel) c_3)
  refine lv_iload hx hb d_X8_act_28 (lv_at hl 0 rfl) ?_
  exact hret _ _ _ d_X8_act_30 (rfl) (rfl)
set_option maxHeartbeats 4000000 in
set_option maxRecDepth 100000 in
theorem c_X8_act3 (l : Launch) (D : va_G) (cI cZ cQ : ClassId) (x tx nw sp ac cr sg sl fl : Nat) (w y a u : Nat) (c1 c2 : Int32) : cu_R l D (cu_TY cI cZ cQ) yX8_act cX8_act 5 .int 2 50 [.ref x, .int 3, .int c1, .int c2] [(x, .inr (6, [.ref tx, .ref nw, .ref sp, .ref ac, .ref cr, .ref sg, .ref sl, .ref fl, .null, .long 0])), (nw, .inr (2, [.ref w, .ref y, .ref a, .ref u, .int 0, .int 0, .int 1, .int 0]))] (fun r => r = (-1)) := by
  refine cu_R.intro (by decide) (Nat.le_of_ble_eq_true rfl) ?_
  intro p e s m args below meth c Q ls S hret hP hK hl
  obtain ⟨hx, hb, hml, hown, hg⟩ := S
  have hown : s.vm.findClass RX8 = some m.cls := hown
  have hl : lv_has ls 5 [(0, .ref x), (1, .int 3), (2, .int c1), (3, .int c2)] := hl
  refine lv_aload_n hx hb d_X8_act_0 rfl (lv_at hl 0 rfl) ?_
  refine va_get (D := D) (ci := 6) (v := .ref nw) (C := RX8) (T := TX8) (N := 10) hx hb hg cu_iX8 hown hK.1 hP 0 rfl rfl 1 (by decide) (hg _ k_180) (fun _ h9 => h9) rfl d_X8_act_1 ?_
  refine lv_iload_n hx hb d_X8_act_4 rfl (lv_at hl 1 rfl) ?_
  refine lv_iload_n hx hb d_X8_act_5 rfl (lv_at hl 2 rfl) ?_
  refine lv_iload_n hx hb d_X8_act_6 rfl (lv_at hl 3 rfl) ?_
  refine cu_VR (wc := [(nw, .inr (2, [.ref w, .ref y, .ref a, .ref u, .int 0, .int 0, .int 1, .int 0]))]) (rest := []) [.int 3, .int c1, .int c2] ⟨hx, hb, hml, hown, hg⟩ (c_X3_put3 l D cI cZ cQ nw w y a u 1 0 c1 c2) hd_X3_put k_352 k_349 k_350 k_351 k_45 ⟨Nat.le_of_ble_eq_true rfl, Nat.le_of_ble_eq_true rfl⟩ ⟨Nat.le_of_ble_eq_true rfl, Nat.le_of_ble_eq_true rfl⟩ hP hK [1] rfl 0 rfl rfl rfl hl.1 rfl (Nat.le_of_ble_eq_true rfl) d_X8_act_7 (fun r_1 hr_2 => ?_)
  subst hr_2
  refine lv_istore (lv' := [(4, .int (-1)), (0, .ref x), (1, .int 3), (2, .int c1), (3, .int c2)]) hx hb d_X8_act_10 hl (by decide) rfl (fun ls hl => ?_)
  refine lv_iload hx hb d_X8_act_12 (lv_at hl 0 rfl) ?_
  refine lv_if_lt (tgt := 28) hx hb d_X8_act_14 (by decide) (fun _ => ?_) (fun c_3 => absurd (by decide +kernel) c_3)
  refine lv_iload hx hb d_X8_act_28 (lv_at hl 0 rfl) ?_
  exact hret _ _ _ d_X8_act_30 (rfl) (rfl)
set_option maxHeartbeats 4000000 in
set_option maxRecDepth 100000 in
theorem c_X8_act4 (l : Launch) (D : va_G) (cI cZ cQ : ClassId) (x tx nw sp ac cr sg sl fl : Nat) (w y a u : Nat) (k1 k2 k3 : Nat) (c1 v : Int32) : cu_W l D (cu_TY cI cZ cQ) yX8_act cX8_act 5 .int 2 37 0 0 [.ref x, .int 4, .int c1, .int v] [(x, .inr (6, [.ref tx, .ref nw, .ref sp, .ref ac, .ref cr, .ref sg, .ref sl, .ref fl, .null, .long 0])), (nw, .inr (2, [.ref w, .ref y, .ref a, .ref u, .int 0, .int 0, .int 1, .int 0])), (ac, .inr (0, [.ref k1, .ref k2, .ref k3, .int 0, .int 0])), (k1, .inl (cI, 14, .inl (fun _ => 0))), (k2, .inl (cI, 14, .inl (fun _ => 0))), (k3, .inl (cI, 14, .inl (fun _ => 0)))] (fun r ww => (r = cu_s9 v) ∧ ww = []) := by
  refine cu_W.intro (by decide) (Nat.le_of_ble_eq_true rfl) ?_
  intro p e s m args below meth c Q ls A S hret hP hD hS hA hK hl
  obtain ⟨hx, hb, hml, hown, hg⟩ := S
  have hown : s.vm.findClass RX8 = some m.cls := hown
  have hl : lv_has ls 5 [(0, .ref x), (1, .int 4), (2, .int c1), (3, .int v)] := hl
  refine lv_aload_n hx hb d_X8_act_0 rfl (lv_at hl 0 rfl) ?_
  refine va_get (D := D) (ci := 6) (v := .ref nw) (C := RX8) (T := TX8) (N := 10) hx hb hg cu_iX8 hown hK.1 hP 0 rfl rfl 1 (by decide) (hg _ k_180) (fun _ h9 => h9) rfl d_X8_act_1 ?_
  refine lv_iload_n hx hb d_X8_act_4 rfl (lv_at hl 1 rfl) ?_
  refine lv_iload_n hx hb d_X8_act_5 rfl (lv_at hl 2 rfl) ?_
  refine lv_iload_n hx hb d_X8_act_6 rfl (lv_at hl 3 rfl) ?_
  refine cu_VW (wc := [(nw, .inr (2, [.ref w, .ref y, .ref a, .ref u, .int 0, .int 0, .int 1, .int 0]))]) (wr := [(x, .inr (6, [.ref tx, .ref nw, .ref sp, .ref ac, .ref cr, .ref sg, .ref sl, .ref fl, .null, .long 0])), (ac, .inr (0, [.ref k1, .ref k2, .ref k3, .int 0, .int 0])), (k1, .inl (cI, 14, .inl (fun _ => 0))), (k2, .inl (cI, 14, .inl (fun _ => 0))), (k3, .inl (cI, 14, .inl (fun _ => 0)))]) (rest := []) [.int 4, .int c1, .int v] ⟨hx, hb, hml, hown, hg⟩ (c_X3_put4 l D cI cZ cQ nw w y a u 0 c1 v) hd_X3_put k_352 k_349 k_350 k_351 k_45 ⟨Nat.le_of_ble_eq_true rfl, Nat.le_of_ble_eq_true rfl⟩ ⟨Nat.le_of_ble_eq_true rfl, Nat.le_of_ble_eq_true rfl⟩ hP hD hS hA hK [1] [0, 2, 3, 4, 5] rfl rfl (by decide) (by decide) (by decide) 0 rfl rfl rfl hl.1 rfl (Nat.le_of_ble_eq_true rfl) d_X8_act_7 (fun r_1 w_3 H locs hw_2 hP hD hS => ?_)
  obtain ⟨hr_4, rfl⟩ := hw_2
  subst hr_4
  have hP : va_P D vwCl [(x, .inr (6, [.ref tx, .ref nw, .ref sp, .ref ac, .ref cr, .ref sg, .ref sl, .ref fl, .null, .long 0])), (ac, .inr (0, [.ref k1, .ref k2, .ref k3, .int 0, .int 0])), (k1, .inl (cI, 14, .inl (fun _ => 0))), (k2, .inl (cI, 14, .inl (fun _ => 0))), (k3, .inl (cI, 14, .inl (fun _ => 0)))] H := hP
  have hD : va_D A [(x, .inr (6, [.ref tx, .ref nw, .ref sp, .ref ac, .ref cr, .ref sg, .ref sl, .ref fl, .null, .long 0])), (ac, .inr (0, [.ref k1, .ref k2, .ref k3, .int 0, .int 0])), (k1, .inl (cI, 14, .inl (fun _ => 0))), (k2, .inl (cI, 14, .inl (fun _ => 0))), (k3, .inl (cI, 14, .inl (fun _ => 0)))] := hD
  by_cases hc_5 : v < 0
  · skip
    refine cu_topi (y := (-2)) (by unfold cu_s9; rw [if_pos hc_5]) ?_
    refine lv_istore (lv' := [(4, .int (-2)), (0, .ref x), (1, .int 4), (2, .int c1), (3, .int v)]) hx hb d_X8_act_10 hl (by decide) rfl (fun ls hl => ?_)
    refine lv_iload hx hb d_X8_act_12 (lv_at hl 0 rfl) ?_
    refine lv_if_lt (tgt := 28) hx hb d_X8_act_14 (by decide) (fun _ => ?_) (fun c_6 => absurd (by decide +kernel) c_6)
    refine lv_iload hx hb d_X8_act_28 (lv_at hl 0 rfl) ?_
    exact hret _ _ _ _ [] _ _ _ (hP.sub (ws' := []) [] rfl) (hD.sub (ws' := []) [] (by decide) rfl) hS (Nat.le_of_ble_eq_true rfl) (Nat.le_of_ble_eq_true rfl) d_X8_act_30 (rfl) ⟨by unfold cu_s9; rw [if_pos hc_5], rfl⟩
  · skip
    by_cases hc_7 : 9 < v
    · skip
      refine cu_topi (y := (-2)) (by unfold cu_s9; rw [if_neg hc_5, if_pos hc_7]) ?_
      refine lv_istore (lv' := [(4, .int (-2)), (0, .ref x), (1, .int 4), (2, .int c1), (3, .int v)]) hx hb d_X8_act_10 hl (by decide) rfl (fun ls hl => ?_)
      refine lv_iload hx hb d_X8_act_12 (lv_at hl 0 rfl) ?_
      refine lv_if_lt (tgt := 28) hx hb d_X8_act_14 (by decide) (fun _ => ?_) (fun c_8 => absurd (by decide +kernel) c_8)
      refine lv_iload hx hb d_X8_act_28 (lv_at hl 0 rfl) ?_
      exact hret _ _ _ _ [] _ _ _ (hP.sub (ws' := []) [] rfl) (hD.sub (ws' := []) [] (by decide) rfl) hS (Nat.le_of_ble_eq_true rfl) (Nat.le_of_ble_eq_true rfl) d_X8_act_30 (rfl) ⟨by unfold cu_s9; rw [if_neg hc_5, if_pos hc_7], rfl⟩
    · skip
      refine cu_topi (y := 1) (by unfold cu_s9; rw [if_neg hc_5, if_neg hc_7]) ?_
      refine lv_istore (lv' := [(4, .int 1), (0, .ref x), (1, .int 4), (2, .int c1), (3, .int v)]) hx hb d_X8_act_10 hl (by decide) rfl (fun ls hl => ?_)
      refine lv_iload hx hb d_X8_act_12 (lv_at hl 0 rfl) ?_
      refine lv_if_lt (tgt := 28) hx hb d_X8_act_14 (by decide) (fun c_9 => absurd c_9 (by decide +kernel)) (fun _ => ?_)
      refine lv_aload_n hx hb d_X8_act_17 rfl (lv_at hl 1 rfl) ?_
      refine va_get (D := D) (ci := 6) (v := .ref ac) (C := RX8) (T := TX8) (N := 10) hx hb hg cu_iX8 hown hK.1 hP 0 rfl rfl 3 (by decide) (hg _ k_182) (fun _ h9 => h9) rfl d_X8_act_18 ?_
      refine lv_iload_n hx hb d_X8_act_21 rfl (lv_at hl 2 rfl) ?_
      refine lv_iload_n hx hb d_X8_act_22 rfl (lv_at hl 3 rfl) ?_
      refine lv_iload hx hb d_X8_act_23 (lv_at hl 0 rfl) ?_
      refine cu_VV (wc := [(ac, .inr (0, [.ref k1, .ref k2, .ref k3, .int 0, .int 0])), (k1, .inl (cI, 14, .inl (fun _ => 0))), (k2, .inl (cI, 14, .inl (fun _ => 0))), (k3, .inl (cI, 14, .inl (fun _ => 0)))]) (wr := [(x, .inr (6, [.ref tx, .ref nw, .ref sp, .ref ac, .ref cr, .ref sg, .ref sl, .ref fl, .null, .long 0]))]) (rest := []) [.int 4, .int c1, .int 1] ⟨hx, hb, hml, hown, hg⟩ (c_X0_add l D cI cZ cQ ac k1 k2 k3 4 c1 1) hd_X0_add k_359 k_356 k_357 k_358 k_46 ⟨Nat.le_of_ble_eq_true rfl, Nat.le_of_ble_eq_true rfl⟩ ⟨Nat.le_of_ble_eq_true rfl, Nat.le_of_ble_eq_true rfl⟩ hP hD hS hA hK [1, 2, 3, 4] [0] rfl rfl (by decide) (by decide) (by decide) 0 rfl rfl rfl hl.1 rfl (Nat.le_of_ble_eq_true rfl) d_X8_act_25 (fun w_12 H locs hw_11 hP hD hS => ?_)
      subst hw_11
      have hP : va_P D vwCl [(x, .inr (6, [.ref tx, .ref nw, .ref sp, .ref ac, .ref cr, .ref sg, .ref sl, .ref fl, .null, .long 0]))] H := hP
      have hD : va_D A [(x, .inr (6, [.ref tx, .ref nw, .ref sp, .ref ac, .ref cr, .ref sg, .ref sl, .ref fl, .null, .long 0]))] := hD
      refine lv_iload hx hb d_X8_act_28 (lv_at hl 0 rfl) ?_
      exact hret _ _ _ _ [] _ _ _ (hP.sub (ws' := []) [] rfl) (hD.sub (ws' := []) [] (by decide) rfl) hS (Nat.le_of_ble_eq_true rfl) (Nat.le_of_ble_eq_true rfl) d_X8_act_30 (rfl) ⟨by unfold cu_s9; rw [if_neg hc_5, if_neg hc_7], rfl⟩
set_option maxHeartbeats 4000000 in
set_option maxRecDepth 100000 in
theorem c_X8_act5 (l : Launch) (D : va_G) (cI cZ cQ : ClassId) (x tx nw sp ac cr sg sl fl : Nat) (w y a u : Nat) (k1 k2 k3 : Nat) (c1 v : Int32) : cu_W l D (cu_TY cI cZ cQ) yX8_act cX8_act 5 .int 2 37 0 0 [.ref x, .int 5, .int c1, .int v] [(x, .inr (6, [.ref tx, .ref nw, .ref sp, .ref ac, .ref cr, .ref sg, .ref sl, .ref fl, .null, .long 0])), (nw, .inr (2, [.ref w, .ref y, .ref a, .ref u, .int 0, .int 0, .int 1, .int 0])), (ac, .inr (0, [.ref k1, .ref k2, .ref k3, .int 0, .int 0])), (k1, .inl (cI, 14, .inl (fun _ => 0))), (k2, .inl (cI, 14, .inl (fun _ => 0))), (k3, .inl (cI, 14, .inl (fun _ => 0)))] (fun r ww => (r = cu_s2 v 0) ∧ ww = []) := by
  refine cu_W.intro (by decide) (Nat.le_of_ble_eq_true rfl) ?_
  intro p e s m args below meth c Q ls A S hret hP hD hS hA hK hl
  obtain ⟨hx, hb, hml, hown, hg⟩ := S
  have hown : s.vm.findClass RX8 = some m.cls := hown
  have hl : lv_has ls 5 [(0, .ref x), (1, .int 5), (2, .int c1), (3, .int v)] := hl
  refine lv_aload_n hx hb d_X8_act_0 rfl (lv_at hl 0 rfl) ?_
  refine va_get (D := D) (ci := 6) (v := .ref nw) (C := RX8) (T := TX8) (N := 10) hx hb hg cu_iX8 hown hK.1 hP 0 rfl rfl 1 (by decide) (hg _ k_180) (fun _ h9 => h9) rfl d_X8_act_1 ?_
  refine lv_iload_n hx hb d_X8_act_4 rfl (lv_at hl 1 rfl) ?_
  refine lv_iload_n hx hb d_X8_act_5 rfl (lv_at hl 2 rfl) ?_
  refine lv_iload_n hx hb d_X8_act_6 rfl (lv_at hl 3 rfl) ?_
  refine cu_VW (wc := [(nw, .inr (2, [.ref w, .ref y, .ref a, .ref u, .int 0, .int 0, .int 1, .int 0]))]) (wr := [(x, .inr (6, [.ref tx, .ref nw, .ref sp, .ref ac, .ref cr, .ref sg, .ref sl, .ref fl, .null, .long 0])), (ac, .inr (0, [.ref k1, .ref k2, .ref k3, .int 0, .int 0])), (k1, .inl (cI, 14, .inl (fun _ => 0))), (k2, .inl (cI, 14, .inl (fun _ => 0))), (k3, .inl (cI, 14, .inl (fun _ => 0)))]) (rest := []) [.int 5, .int c1, .int v] ⟨hx, hb, hml, hown, hg⟩ (c_X3_put5 l D cI cZ cQ nw w y a u 1 0 c1 v) hd_X3_put k_352 k_349 k_350 k_351 k_45 ⟨Nat.le_of_ble_eq_true rfl, Nat.le_of_ble_eq_true rfl⟩ ⟨Nat.le_of_ble_eq_true rfl, Nat.le_of_ble_eq_true rfl⟩ hP hD hS hA hK [1] [0, 2, 3, 4, 5] rfl rfl (by decide) (by decide) (by decide) 0 rfl rfl rfl hl.1 rfl (Nat.le_of_ble_eq_true rfl) d_X8_act_7 (fun r_1 w_3 H locs hw_2 hP hD hS => ?_)
  obtain ⟨hr_6, lz_4, hz_5, rfl⟩ := hw_2
  subst hr_6
  have hP : va_P D vwCl [(x, .inr (6, [.ref tx, .ref nw, .ref sp, .ref ac, .ref cr, .ref sg, .ref sl, .ref fl, .null, .long 0])), (ac, .inr (0, [.ref k1, .ref k2, .ref k3, .int 0, .int 0])), (k1, .inl (cI, 14, .inl (fun _ => 0))), (k2, .inl (cI, 14, .inl (fun _ => 0))), (k3, .inl (cI, 14, .inl (fun _ => 0))), (nw, .inr (2, [.ref w, .ref y, .ref a, .ref u, .int 0, .int 0, .int 1, .int lz_4]))] H := hP
  have hD : va_D A [(x, .inr (6, [.ref tx, .ref nw, .ref sp, .ref ac, .ref cr, .ref sg, .ref sl, .ref fl, .null, .long 0])), (ac, .inr (0, [.ref k1, .ref k2, .ref k3, .int 0, .int 0])), (k1, .inl (cI, 14, .inl (fun _ => 0))), (k2, .inl (cI, 14, .inl (fun _ => 0))), (k3, .inl (cI, 14, .inl (fun _ => 0))), (nw, .inr (2, [.ref w, .ref y, .ref a, .ref u, .int 0, .int 0, .int 1, .int lz_4]))] := hD
  by_cases hc_7 : v < 0
  · skip
    refine cu_topi (y := (-2)) (by unfold cu_s2; rw [if_pos hc_7]) ?_
    refine lv_istore (lv' := [(4, .int (-2)), (0, .ref x), (1, .int 5), (2, .int c1), (3, .int v)]) hx hb d_X8_act_10 hl (by decide) rfl (fun ls hl => ?_)
    refine lv_iload hx hb d_X8_act_12 (lv_at hl 0 rfl) ?_
    refine lv_if_lt (tgt := 28) hx hb d_X8_act_14 (by decide) (fun _ => ?_) (fun c_8 => absurd (by decide +kernel) c_8)
    refine lv_iload hx hb d_X8_act_28 (lv_at hl 0 rfl) ?_
    exact hret _ _ _ _ [] _ _ _ (hP.sub (ws' := []) [] rfl) (hD.sub (ws' := []) [] (by decide) rfl) hS (Nat.le_of_ble_eq_true rfl) (Nat.le_of_ble_eq_true rfl) d_X8_act_30 (rfl) ⟨by unfold cu_s2; rw [if_pos hc_7], rfl⟩
  · skip
    by_cases hc_9 : 2 < v
    · skip
      refine cu_topi (y := (-2)) (by unfold cu_s2; rw [if_neg hc_7, if_pos hc_9]) ?_
      refine lv_istore (lv' := [(4, .int (-2)), (0, .ref x), (1, .int 5), (2, .int c1), (3, .int v)]) hx hb d_X8_act_10 hl (by decide) rfl (fun ls hl => ?_)
      refine lv_iload hx hb d_X8_act_12 (lv_at hl 0 rfl) ?_
      refine lv_if_lt (tgt := 28) hx hb d_X8_act_14 (by decide) (fun _ => ?_) (fun c_10 => absurd (by decide +kernel) c_10)
      refine lv_iload hx hb d_X8_act_28 (lv_at hl 0 rfl) ?_
      exact hret _ _ _ _ [] _ _ _ (hP.sub (ws' := []) [] rfl) (hD.sub (ws' := []) [] (by decide) rfl) hS (Nat.le_of_ble_eq_true rfl) (Nat.le_of_ble_eq_true rfl) d_X8_act_30 (rfl) ⟨by unfold cu_s2; rw [if_neg hc_7, if_pos hc_9], rfl⟩
    · skip
      refine cu_topi (y := 0) (by unfold cu_s2; rw [if_neg hc_7, if_neg hc_9]) ?_
      refine lv_istore (lv' := [(4, .int 0), (0, .ref x), (1, .int 5), (2, .int c1), (3, .int v)]) hx hb d_X8_act_10 hl (by decide) rfl (fun ls hl => ?_)
      refine lv_iload hx hb d_X8_act_12 (lv_at hl 0 rfl) ?_
      refine lv_if_lt (tgt := 28) hx hb d_X8_act_14 (by decide) (fun c_11 => absurd c_11 (by decide +kernel)) (fun _ => ?_)
      refine lv_aload_n hx hb d_X8_act_17 rfl (lv_at hl 1 rfl) ?_
      refine va_get (D := D) (ci := 6) (v := .ref ac) (C := RX8) (T := TX8) (N := 10) hx hb hg cu_iX8 hown hK.1 hP 0 rfl rfl 3 (by decide) (hg _ k_182) (fun _ h9 => h9) rfl d_X8_act_18 ?_
      refine lv_iload_n hx hb d_X8_act_21 rfl (lv_at hl 2 rfl) ?_
      refine lv_iload_n hx hb d_X8_act_22 rfl (lv_at hl 3 rfl) ?_
      refine lv_iload hx hb d_X8_act_23 (lv_at hl 0 rfl) ?_
      refine cu_VV (wc := [(ac, .inr (0, [.ref k1, .ref k2, .ref k3, .int 0, .int 0])), (k1, .inl (cI, 14, .inl (fun _ => 0))), (k2, .inl (cI, 14, .inl (fun _ => 0))), (k3, .inl (cI, 14, .inl (fun _ => 0)))]) (wr := [(x, .inr (6, [.ref tx, .ref nw, .ref sp, .ref ac, .ref cr, .ref sg, .ref sl, .ref fl, .null, .long 0])), (nw, .inr (2, [.ref w, .ref y, .ref a, .ref u, .int 0, .int 0, .int 1, .int lz_4]))]) (rest := []) [.int 5, .int c1, .int 0] ⟨hx, hb, hml, hown, hg⟩ (c_X0_add l D cI cZ cQ ac k1 k2 k3 5 c1 0) hd_X0_add k_359 k_356 k_357 k_358 k_46 ⟨Nat.le_of_ble_eq_true rfl, Nat.le_of_ble_eq_true rfl⟩ ⟨Nat.le_of_ble_eq_true rfl, Nat.le_of_ble_eq_true rfl⟩ hP hD hS hA hK [1, 2, 3, 4] [0, 5] rfl rfl (by decide) (by decide) (by decide) 0 rfl rfl rfl hl.1 rfl (Nat.le_of_ble_eq_true rfl) d_X8_act_25 (fun w_14 H locs hw_13 hP hD hS => ?_)
      subst hw_13
      have hP : va_P D vwCl [(x, .inr (6, [.ref tx, .ref nw, .ref sp, .ref ac, .ref cr, .ref sg, .ref sl, .ref fl, .null, .long 0])), (nw, .inr (2, [.ref w, .ref y, .ref a, .ref u, .int 0, .int 0, .int 1, .int lz_4]))] H := hP
      have hD : va_D A [(x, .inr (6, [.ref tx, .ref nw, .ref sp, .ref ac, .ref cr, .ref sg, .ref sl, .ref fl, .null, .long 0])), (nw, .inr (2, [.ref w, .ref y, .ref a, .ref u, .int 0, .int 0, .int 1, .int lz_4]))] := hD
      refine lv_iload hx hb d_X8_act_28 (lv_at hl 0 rfl) ?_
      exact hret _ _ _ _ [] _ _ _ (hP.sub (ws' := []) [] rfl) (hD.sub (ws' := []) [] (by decide) rfl) hS (Nat.le_of_ble_eq_true rfl) (Nat.le_of_ble_eq_true rfl) d_X8_act_30 (rfl) ⟨by unfold cu_s2; rw [if_neg hc_7, if_neg hc_9], rfl⟩
def cu_swr (c1 : Int32) : Int32 := if c1 < 0 then (-2) else if 255 < c1 then (-2) else 1
set_option maxHeartbeats 4000000 in
set_option maxRecDepth 100000 in
theorem c_X8_write (l : Launch) (D : va_G) (cI cZ cQ : ClassId) (x tx nw sp ac cr sg sl fl : Nat) (ts : Nat) (c1 : Int32) : cu_W l D (cu_TY cI cZ cQ) yX8_write cX8_write 2 .int 1 21 0 0 [.ref x, .int c1] [(x, .inr (6, [.ref tx, .ref nw, .ref sp, .ref ac, .ref cr, .ref sg, .ref sl, .ref fl, .null, .long 0])), (tx, .inr (5, [.ref ts, .int 0])), (ts, .inl (cI, 130, .inl (fun _ => 0)))] (fun r ww => (r = cu_swr c1) ∧ ww = []) := by
  refine cu_W.intro (by decide) (Nat.le_of_ble_eq_true rfl) ?_
  intro p e s m args below meth c Q ls A S hret hP hD hS hA hK hl
  obtain ⟨hx, hb, hml, hown, hg⟩ := S
  have hown : s.vm.findClass RX8 = some m.cls := hown
  have hl : lv_has ls 2 [(0, .ref x), (1, .int c1)] := hl
  refine lv_iload_n hx hb d_X8_write_0 rfl (lv_at hl 1 rfl) ?_
  refine lv_if_lt (tgt := 11) hx hb d_X8_write_1 (by decide) (fun c_1 => ?_) (fun c_1 => ?_)
  · skip
    refine lv_bipush (v := (-2)) hx hb d_X8_write_11 (by decide) ?_
    refine lv_goto (tgt := 24) hx hb d_X8_write_13 (by decide) ?_
    exact hret _ _ _ _ [] _ _ _ (hP.sub (ws' := []) [] rfl) (hD.sub (ws' := []) [] (by decide) rfl) hS (Nat.le_of_ble_eq_true rfl) (Nat.le_of_ble_eq_true rfl) d_X8_write_24 (rfl) ⟨by unfold cu_swr; rw [if_pos c_1], rfl⟩
  · skip
    refine lv_iload_n hx hb d_X8_write_4 rfl (lv_at hl 1 rfl) ?_
    refine lv_sipush (v := 255) hx hb d_X8_write_5 (by decide) ?_
    refine lv_icmp_le (tgt := 16) hx hb d_X8_write_8 (by decide) (fun c_2 => ?_) (fun c_2 => ?_)
    · skip
      refine lv_aload_n hx hb d_X8_write_16 rfl (lv_at hl 0 rfl) ?_
      refine va_get (D := D) (ci := 6) (v := .ref tx) (C := RX8) (T := TX8) (N := 10) hx hb hg cu_iX8 hown hK.1 hP 0 rfl rfl 0 (by decide) (hg _ k_179) (fun _ h9 => h9) rfl d_X8_write_17 ?_
      refine lv_iload_n hx hb d_X8_write_20 rfl (lv_at hl 1 rfl) ?_
      refine cu_VW (wc := [(tx, .inr (5, [.ref ts, .int 0])), (ts, .inl (cI, 130, .inl (fun _ => 0)))]) (wr := [(x, .inr (6, [.ref tx, .ref nw, .ref sp, .ref ac, .ref cr, .ref sg, .ref sl, .ref fl, .null, .long 0]))]) (rest := []) [.int c1] ⟨hx, hb, hml, hown, hg⟩ (c_X7_append l D cI cZ cQ tx ts c1) hd_X7_append k_217 k_214 k_215 k_216 k_44 ⟨Nat.le_of_ble_eq_true rfl, Nat.le_of_ble_eq_true rfl⟩ ⟨Nat.le_of_ble_eq_true rfl, Nat.le_of_ble_eq_true rfl⟩ hP hD hS hA hK [1, 2] [0] rfl rfl (by decide) (by decide) (by decide) 0 rfl rfl rfl hl.1 rfl (Nat.le_of_ble_eq_true rfl) d_X8_write_21 (fun r_3 w_5 H locs hw_4 hP hD hS => ?_)
      obtain ⟨hr_6, rfl⟩ := hw_4
      subst hr_6
      have hP : va_P D vwCl [(x, .inr (6, [.ref tx, .ref nw, .ref sp, .ref ac, .ref cr, .ref sg, .ref sl, .ref fl, .null, .long 0]))] H := hP
      have hD : va_D A [(x, .inr (6, [.ref tx, .ref nw, .ref sp, .ref ac, .ref cr, .ref sg, .ref sl, .ref fl, .null, .long 0]))] := hD
      exact hret _ _ _ _ [] _ _ _ (hP.sub (ws' := []) [] rfl) (hD.sub (ws' := []) [] (by decide) rfl) hS (Nat.le_of_ble_eq_true rfl) (Nat.le_of_ble_eq_true rfl) d_X8_write_24 (rfl) ⟨by unfold cu_swr; rw [if_neg c_1, if_neg (Int32.not_lt.mpr c_2)], rfl⟩
    · skip
      refine lv_bipush (v := (-2)) hx hb d_X8_write_11 (by decide) ?_
      refine lv_goto (tgt := 24) hx hb d_X8_write_13 (by decide) ?_
      exact hret _ _ _ _ [] _ _ _ (hP.sub (ws' := []) [] rfl) (hD.sub (ws' := []) [] (by decide) rfl) hS (Nat.le_of_ble_eq_true rfl) (Nat.le_of_ble_eq_true rfl) d_X8_write_24 (rfl) ⟨by unfold cu_swr; rw [if_neg c_1, if_pos (Int32.not_le.mp c_2)], rfl⟩
set_option maxHeartbeats 4000000 in
set_option maxRecDepth 100000 in
theorem c_X8_wipe (l : Launch) (D : va_G) (cI cZ cQ : ClassId) (x tx nw sp ac cr sg sl fl : Nat) (ts : Nat) : cu_W l D (cu_TY cI cZ cQ) yX8_wipe cX8_wipe 2 .int 0 0 0 0 [.ref x] [(x, .inr (6, [.ref tx, .ref nw, .ref sp, .ref ac, .ref cr, .ref sg, .ref sl, .ref fl, .null, .long 0])), (tx, .inr (5, [.ref ts, .int 0]))] (fun r ww => (r = 0) ∧ ww = []) := by
  refine cu_W.intro (by decide) (Nat.le_of_ble_eq_true rfl) ?_
  intro p e s m args below meth c Q ls A S hret hP hD hS hA hK hl
  obtain ⟨hx, hb, hml, hown, hg⟩ := S
  have hown : s.vm.findClass RX8 = some m.cls := hown
  have hl : lv_has ls 2 [(0, .ref x)] := hl
  refine lv_aload_n hx hb d_X8_wipe_0 rfl (lv_at hl 0 rfl) ?_
  refine va_get (D := D) (ci := 6) (v := .ref tx) (C := RX8) (T := TX8) (N := 10) hx hb hg cu_iX8 hown hK.1 hP 0 rfl rfl 0 (by decide) (hg _ k_179) (fun _ h9 => h9) rfl d_X8_wipe_1 ?_
  refine va_get (D := D) (ci := 5) (v := .int 0) (C := RX7) (T := TX7) (N := 2) hx hb hg cu_iX7 hown hK.1 hP 1 rfl rfl 1 (by decide) (hg _ k_71) (fun _ h9 => h9) rfl d_X8_wipe_4 ?_
  refine lv_istore_n (lv' := [(1, .int 0), (0, .ref x)]) hx hb d_X8_wipe_7 rfl hl (by decide) rfl (fun ls hl => ?_)
  refine lv_aload_n hx hb d_X8_wipe_8 rfl (lv_at hl 1 rfl) ?_
  refine va_get (D := D) (ci := 6) (v := .ref tx) (C := RX8) (T := TX8) (N := 10) hx hb hg cu_iX8 hown hK.1 hP 0 rfl rfl 0 (by decide) (hg _ k_179) (fun _ h9 => h9) rfl d_X8_wipe_9 ?_
  refine lv_iconst (v := 0) hx hb d_X8_wipe_12 (by decide) ?_
  refine va_put (D := D) (ci := 5) (v := .int 0) (ty := .int) (C := RX7) (T := TX7) (N := 2) hx hb hg cu_iX7 tyX7 tyX7_ok nmX7 hown hK.1 hP hD hS 1 rfl rfl 1 (by decide) (hg _ k_71) (fun _ h9 => h9) rfl (by decide +kernel) rfl rfl (Nat.le_of_ble_eq_true rfl) d_X8_wipe_13 (fun H locs hP hD hS => ?_)
  have hP : va_P D vwCl [(x, .inr (6, [.ref tx, .ref nw, .ref sp, .ref ac, .ref cr, .ref sg, .ref sl, .ref fl, .null, .long 0])), (tx, .inr (5, [.ref ts, .int 0]))] H := hP
  have hD : va_D A [(x, .inr (6, [.ref tx, .ref nw, .ref sp, .ref ac, .ref cr, .ref sg, .ref sl, .ref fl, .null, .long 0])), (tx, .inr (5, [.ref ts, .int 0]))] := hD
  refine lv_iload_n hx hb d_X8_wipe_16 rfl (lv_at hl 0 rfl) ?_
  exact hret _ _ _ _ [] _ _ _ (hP.sub (ws' := []) [] rfl) (hD.sub (ws' := []) [] (by decide) rfl) hS (Nat.le_of_ble_eq_true rfl) (Nat.le_of_ble_eq_true rfl) d_X8_wipe_17 (rfl) ⟨rfl, rfl⟩
set_option maxHeartbeats 4000000 in
set_option maxRecDepth 100000 in
theorem c_X8_fault (l : Launch) (D : va_G) (cI cZ cQ : ClassId) (x tx nw sp ac cr sg sl fl : Nat) (ts : Nat) : cu_R l D (cu_TY cI cZ cQ) yX8_fault cX8_fault 1 .int 2 44 [.ref x] [(x, .inr (6, [.ref tx, .ref nw, .ref sp, .ref ac, .ref cr, .ref sg, .ref sl, .ref fl, .null, .long 0])), (tx, .inr (5, [.ref ts, .int 0]))] (fun r => r = 0) := by
  refine cu_R.intro (by decide) (Nat.le_of_ble_eq_true rfl) ?_
  intro p e s m args below meth c Q ls S hret hP hK hl
  obtain ⟨hx, hb, hml, hown, hg⟩ := S
  have hown : s.vm.findClass RX8 = some m.cls := hown
  have hl : lv_has ls 1 [(0, .ref x)] := hl
  refine lv_aload_n hx hb d_X8_fault_0 rfl (lv_at hl 0 rfl) ?_
  refine va_get (D := D) (ci := 6) (v := .ref tx) (C := RX8) (T := TX8) (N := 10) hx hb hg cu_iX8 hown hK.1 hP 0 rfl rfl 0 (by decide) (hg _ k_179) (fun _ h9 => h9) rfl d_X8_fault_1 ?_
  refine lv_aload_n hx hb d_X8_fault_4 rfl (lv_at hl 0 rfl) ?_
  refine va_get (D := D) (ci := 6) (v := .ref sp) (C := RX8) (T := TX8) (N := 10) hx hb hg cu_iX8 hown hK.1 hP 0 rfl rfl 2 (by decide) (hg _ k_181) (fun _ h9 => h9) rfl d_X8_fault_5 ?_
  refine cu_VR (wc := [(tx, .inr (5, [.ref ts, .int 0]))]) (rest := []) [.ref sp] ⟨hx, hb, hml, hown, hg⟩ (c_X7_readInto l D cI cZ cQ tx ts sp) hd_X7_readInto k_229 k_226 k_227 k_228 k_44 ⟨Nat.le_of_ble_eq_true rfl, Nat.le_of_ble_eq_true rfl⟩ ⟨Nat.le_of_ble_eq_true rfl, Nat.le_of_ble_eq_true rfl⟩ hP hK [1] rfl 0 rfl rfl rfl hl.1 rfl (Nat.le_of_ble_eq_true rfl) d_X8_fault_8 (fun r_1 hr_2 => ?_)
  subst hr_2
  exact hret _ _ _ d_X8_fault_11 (rfl) (rfl)
set_option maxHeartbeats 4000000 in
set_option maxRecDepth 100000 in
theorem c_X8_hoard (l : Launch) (D : va_G) (cI cZ cQ : ClassId) (x tx nw sp ac cr sg sl fl : Nat) (ts : Nat) : cu_R l D (cu_TY cI cZ cQ) yX8_hoard cX8_hoard 2 .int 2 44 [.ref x] [(x, .inr (6, [.ref tx, .ref nw, .ref sp, .ref ac, .ref cr, .ref sg, .ref sl, .ref fl, .null, .long 0])), (tx, .inr (5, [.ref ts, .int 0]))] (fun r => r = (-3)) := by
  refine cu_R.intro (by decide) (Nat.le_of_ble_eq_true rfl) ?_
  intro p e s m args below meth c Q ls S hret hP hK hl
  obtain ⟨hx, hb, hml, hown, hg⟩ := S
  have hown : s.vm.findClass RX8 = some m.cls := hown
  have hl : lv_has ls 2 [(0, .ref x)] := hl
  refine lv_aload_n hx hb d_X8_hoard_0 rfl (lv_at hl 0 rfl) ?_
  refine va_get (D := D) (ci := 6) (v := .ref tx) (C := RX8) (T := TX8) (N := 10) hx hb hg cu_iX8 hown hK.1 hP 0 rfl rfl 0 (by decide) (hg _ k_179) (fun _ h9 => h9) rfl d_X8_hoard_1 ?_
  refine lv_aload_n hx hb d_X8_hoard_4 rfl (lv_at hl 0 rfl) ?_
  refine va_get (D := D) (ci := 6) (v := .ref sp) (C := RX8) (T := TX8) (N := 10) hx hb hg cu_iX8 hown hK.1 hP 0 rfl rfl 2 (by decide) (hg _ k_181) (fun _ h9 => h9) rfl d_X8_hoard_5 ?_
  refine cu_VR (wc := [(tx, .inr (5, [.ref ts, .int 0]))]) (rest := []) [.ref sp] ⟨hx, hb, hml, hown, hg⟩ (c_X7_readInto l D cI cZ cQ tx ts sp) hd_X7_readInto k_229 k_226 k_227 k_228 k_44 ⟨Nat.le_of_ble_eq_true rfl, Nat.le_of_ble_eq_true rfl⟩ ⟨Nat.le_of_ble_eq_true rfl, Nat.le_of_ble_eq_true rfl⟩ hP hK [1] rfl 0 rfl rfl rfl hl.1 rfl (Nat.le_of_ble_eq_true rfl) d_X8_hoard_8 (fun r_1 hr_2 => ?_)
  subst hr_2
  refine lv_bipush (v := (-9)) hx hb d_X8_hoard_11 (by decide) ?_
  refine lv_icmp_eq (tgt := 19) hx hb d_X8_hoard_13 (by decide) (fun c_3 => absurd c_3 (by decide +kernel)) (fun _ => ?_)
  refine lv_bipush (v := (-3)) hx hb d_X8_hoard_16 (by decide) ?_
  exact hret _ _ _ d_X8_hoard_18 (rfl) (rfl)
set_option maxHeartbeats 4000000 in
set_option maxRecDepth 100000 in
theorem c_X8_coin (l : Launch) (D : va_G) (cI cZ cQ : ClassId) (x tx nw sp ac cr sg sl fl : Nat) (w y a u : Nat) (c1 c2 : Int32) : cu_R l D (cu_TY cI cZ cQ) yX8_coin cX8_coin 3 .int 1 21 [.ref x, .int c1, .int c2] [(x, .inr (6, [.ref tx, .ref nw, .ref sp, .ref ac, .ref cr, .ref sg, .ref sl, .ref fl, .null, .long 0])), (nw, .inr (2, [.ref w, .ref y, .ref a, .ref u, .int 0, .int 0, .int 1, .int 0]))] (fun r => r = (-1)) := by
  refine cu_R.intro (by decide) (Nat.le_of_ble_eq_true rfl) ?_
  intro p e s m args below meth c Q ls S hret hP hK hl
  obtain ⟨hx, hb, hml, hown, hg⟩ := S
  have hown : s.vm.findClass RX8 = some m.cls := hown
  have hl : lv_has ls 3 [(0, .ref x), (1, .int c1), (2, .int c2)] := hl
  refine lv_aload_n hx hb d_X8_coin_0 rfl (lv_at hl 0 rfl) ?_
  refine va_get (D := D) (ci := 6) (v := .ref nw) (C := RX8) (T := TX8) (N := 10) hx hb hg cu_iX8 hown hK.1 hP 0 rfl rfl 1 (by decide) (hg _ k_180) (fun _ h9 => h9) rfl d_X8_coin_1 ?_
  refine lv_iload_n hx hb d_X8_coin_4 rfl (lv_at hl 1 rfl) ?_
  refine cu_VR (wc := [(nw, .inr (2, [.ref w, .ref y, .ref a, .ref u, .int 0, .int 0, .int 1, .int 0]))]) (rest := []) [.int c1] ⟨hx, hb, hml, hown, hg⟩ (c_X3_hasCoin l D cI cZ cQ nw w y a u 1 0 c1) hd_X3_hasCoin k_281 k_278 k_279 k_280 k_45 ⟨Nat.le_of_ble_eq_true rfl, Nat.le_of_ble_eq_true rfl⟩ ⟨Nat.le_of_ble_eq_true rfl, Nat.le_of_ble_eq_true rfl⟩ hP hK [1] rfl 0 rfl rfl rfl hl.1 rfl (Nat.le_of_ble_eq_true rfl) d_X8_coin_5 (fun r_1 hr_2 => ?_)
  subst hr_2
  refine lv_if_ne (tgt := 13) hx hb d_X8_coin_8 (by decide) (fun c_3 => absurd (by decide +kernel) c_3) (fun _ => ?_)
  refine lv_iconst (v := (-1)) hx hb d_X8_coin_11 (by decide) ?_
  exact hret _ _ _ d_X8_coin_12 (rfl) (rfl)
set_option maxHeartbeats 4000000 in
set_option maxRecDepth 100000 in
theorem c_X8_mint (l : Launch) (D : va_G) (cI cZ cQ : ClassId) (x tx nw sp ac cr sg sl fl : Nat) (w y a u : Nat) (c1 c2 : Int32) : cu_R l D (cu_TY cI cZ cQ) yX8_mint cX8_mint 3 .int 1 21 [.ref x, .int c1, .int c2] [(x, .inr (6, [.ref tx, .ref nw, .ref sp, .ref ac, .ref cr, .ref sg, .ref sl, .ref fl, .null, .long 0])), (nw, .inr (2, [.ref w, .ref y, .ref a, .ref u, .int 0, .int 0, .int 1, .int 0]))] (fun r => r = (-1)) := by
  refine cu_R.intro (by decide) (Nat.le_of_ble_eq_true rfl) ?_
  intro p e s m args below meth c Q ls S hret hP hK hl
  obtain ⟨hx, hb, hml, hown, hg⟩ := S
  have hown : s.vm.findClass RX8 = some m.cls := hown
  have hl : lv_has ls 3 [(0, .ref x), (1, .int c1), (2, .int c2)] := hl
  refine lv_aload_n hx hb d_X8_mint_0 rfl (lv_at hl 0 rfl) ?_
  refine va_get (D := D) (ci := 6) (v := .ref nw) (C := RX8) (T := TX8) (N := 10) hx hb hg cu_iX8 hown hK.1 hP 0 rfl rfl 1 (by decide) (hg _ k_180) (fun _ h9 => h9) rfl d_X8_mint_1 ?_
  refine lv_iload_n hx hb d_X8_mint_4 rfl (lv_at hl 1 rfl) ?_
  refine cu_VR (wc := [(nw, .inr (2, [.ref w, .ref y, .ref a, .ref u, .int 0, .int 0, .int 1, .int 0]))]) (rest := []) [.int c1] ⟨hx, hb, hml, hown, hg⟩ (c_X3_hasMint l D cI cZ cQ nw w y a u 1 0 c1) hd_X3_hasMint k_321 k_318 k_319 k_320 k_45 ⟨Nat.le_of_ble_eq_true rfl, Nat.le_of_ble_eq_true rfl⟩ ⟨Nat.le_of_ble_eq_true rfl, Nat.le_of_ble_eq_true rfl⟩ hP hK [1] rfl 0 rfl rfl rfl hl.1 rfl (Nat.le_of_ble_eq_true rfl) d_X8_mint_5 (fun r_1 hr_2 => ?_)
  subst hr_2
  refine lv_if_ne (tgt := 13) hx hb d_X8_mint_8 (by decide) (fun c_3 => absurd (by decide +kernel) c_3) (fun _ => ?_)
  refine lv_iconst (v := (-1)) hx hb d_X8_mint_11 (by decide) ?_
  exact hret _ _ _ d_X8_mint_12 (rfl) (rfl)
set_option maxHeartbeats 4000000 in
set_option maxRecDepth 100000 in
theorem c_X8_clean (l : Launch) (D : va_G) (cI cZ cQ : ClassId) (x tx nw sp ac cr sg sl fl : Nat) (w y a u : Nat) (c1 c2 : Int32) : cu_R l D (cu_TY cI cZ cQ) yX8_clean cX8_clean 3 .int 3 74 [.ref x, .int c1, .int c2] [(x, .inr (6, [.ref tx, .ref nw, .ref sp, .ref ac, .ref cr, .ref sg, .ref sl, .ref fl, .null, .long 0])), (nw, .inr (2, [.ref w, .ref y, .ref a, .ref u, .int 0, .int 0, .int 1, .int 0]))] (fun r => r = (-1)) := by
  refine cu_R.intro (by decide) (Nat.le_of_ble_eq_true rfl) ?_
  intro p e s m args below meth c Q ls S hret hP hK hl
  obtain ⟨hx, hb, hml, hown, hg⟩ := S
  have hown : s.vm.findClass RX8 = some m.cls := hown
  have hl : lv_has ls 3 [(0, .ref x), (1, .int c1), (2, .int c2)] := hl
  refine lv_aload_n hx hb d_X8_clean_0 rfl (lv_at hl 0 rfl) ?_
  refine lv_iconst (v := 0) hx hb d_X8_clean_1 (by decide) ?_
  refine lv_iload_n hx hb d_X8_clean_2 rfl (lv_at hl 1 rfl) ?_
  refine lv_iload_n hx hb d_X8_clean_3 rfl (lv_at hl 2 rfl) ?_
  refine cu_VR (wc := [(x, .inr (6, [.ref tx, .ref nw, .ref sp, .ref ac, .ref cr, .ref sg, .ref sl, .ref fl, .null, .long 0])), (nw, .inr (2, [.ref w, .ref y, .ref a, .ref u, .int 0, .int 0, .int 1, .int 0]))]) (rest := []) [.int 0, .int c1, .int c2] ⟨hx, hb, hml, hown, hg⟩ (c_X8_act0 l D cI cZ cQ x tx nw sp ac cr sg sl fl w y a u c1 c2) hd_X8_act k_348 k_345 k_347 k_6 k_43 ⟨Nat.le_of_ble_eq_true rfl, Nat.le_of_ble_eq_true rfl⟩ ⟨Nat.le_of_ble_eq_true rfl, Nat.le_of_ble_eq_true rfl⟩ hP hK [0, 1] rfl 0 rfl rfl rfl hl.1 rfl (Nat.le_of_ble_eq_true rfl) d_X8_clean_4 (fun r_1 hr_2 => ?_)
  subst hr_2
  exact hret _ _ _ d_X8_clean_7 (rfl) (rfl)
set_option maxHeartbeats 4000000 in
set_option maxRecDepth 100000 in
theorem c_X8_date (l : Launch) (D : va_G) (cI cZ cQ : ClassId) (x tx nw sp ac cr sg sl fl : Nat) (w y a u : Nat) (c1 c2 : Int32) : cu_R l D (cu_TY cI cZ cQ) yX8_date cX8_date 3 .int 3 74 [.ref x, .int c1, .int c2] [(x, .inr (6, [.ref tx, .ref nw, .ref sp, .ref ac, .ref cr, .ref sg, .ref sl, .ref fl, .null, .long 0])), (nw, .inr (2, [.ref w, .ref y, .ref a, .ref u, .int 0, .int 0, .int 1, .int 0]))] (fun r => r = (-1)) := by
  refine cu_R.intro (by decide) (Nat.le_of_ble_eq_true rfl) ?_
  intro p e s m args below meth c Q ls S hret hP hK hl
  obtain ⟨hx, hb, hml, hown, hg⟩ := S
  have hown : s.vm.findClass RX8 = some m.cls := hown
  have hl : lv_has ls 3 [(0, .ref x), (1, .int c1), (2, .int c2)] := hl
  refine lv_aload_n hx hb d_X8_date_0 rfl (lv_at hl 0 rfl) ?_
  refine lv_iconst (v := 1) hx hb d_X8_date_1 (by decide) ?_
  refine lv_iload_n hx hb d_X8_date_2 rfl (lv_at hl 1 rfl) ?_
  refine lv_iload_n hx hb d_X8_date_3 rfl (lv_at hl 2 rfl) ?_
  refine cu_VR (wc := [(x, .inr (6, [.ref tx, .ref nw, .ref sp, .ref ac, .ref cr, .ref sg, .ref sl, .ref fl, .null, .long 0])), (nw, .inr (2, [.ref w, .ref y, .ref a, .ref u, .int 0, .int 0, .int 1, .int 0]))]) (rest := []) [.int 1, .int c1, .int c2] ⟨hx, hb, hml, hown, hg⟩ (c_X8_act1 l D cI cZ cQ x tx nw sp ac cr sg sl fl w y a u c1 c2) hd_X8_act k_348 k_345 k_347 k_6 k_43 ⟨Nat.le_of_ble_eq_true rfl, Nat.le_of_ble_eq_true rfl⟩ ⟨Nat.le_of_ble_eq_true rfl, Nat.le_of_ble_eq_true rfl⟩ hP hK [0, 1] rfl 0 rfl rfl rfl hl.1 rfl (Nat.le_of_ble_eq_true rfl) d_X8_date_4 (fun r_1 hr_2 => ?_)
  subst hr_2
  exact hret _ _ _ d_X8_date_7 (rfl) (rfl)
set_option maxHeartbeats 4000000 in
set_option maxRecDepth 100000 in
theorem c_X8_strike (l : Launch) (D : va_G) (cI cZ cQ : ClassId) (x tx nw sp ac cr sg sl fl : Nat) (w y a u : Nat) (c1 c2 : Int32) : cu_R l D (cu_TY cI cZ cQ) yX8_strike cX8_strike 3 .int 3 74 [.ref x, .int c1, .int c2] [(x, .inr (6, [.ref tx, .ref nw, .ref sp, .ref ac, .ref cr, .ref sg, .ref sl, .ref fl, .null, .long 0])), (nw, .inr (2, [.ref w, .ref y, .ref a, .ref u, .int 0, .int 0, .int 1, .int 0]))] (fun r => r = (-1)) := by
  refine cu_R.intro (by decide) (Nat.le_of_ble_eq_true rfl) ?_
  intro p e s m args below meth c Q ls S hret hP hK hl
  obtain ⟨hx, hb, hml, hown, hg⟩ := S
  have hown : s.vm.findClass RX8 = some m.cls := hown
  have hl : lv_has ls 3 [(0, .ref x), (1, .int c1), (2, .int c2)] := hl
  refine lv_aload_n hx hb d_X8_strike_0 rfl (lv_at hl 0 rfl) ?_
  refine lv_iconst (v := 3) hx hb d_X8_strike_1 (by decide) ?_
  refine lv_iload_n hx hb d_X8_strike_2 rfl (lv_at hl 1 rfl) ?_
  refine lv_iload_n hx hb d_X8_strike_3 rfl (lv_at hl 2 rfl) ?_
  refine cu_VR (wc := [(x, .inr (6, [.ref tx, .ref nw, .ref sp, .ref ac, .ref cr, .ref sg, .ref sl, .ref fl, .null, .long 0])), (nw, .inr (2, [.ref w, .ref y, .ref a, .ref u, .int 0, .int 0, .int 1, .int 0]))]) (rest := []) [.int 3, .int c1, .int c2] ⟨hx, hb, hml, hown, hg⟩ (c_X8_act3 l D cI cZ cQ x tx nw sp ac cr sg sl fl w y a u c1 c2) hd_X8_act k_348 k_345 k_347 k_6 k_43 ⟨Nat.le_of_ble_eq_true rfl, Nat.le_of_ble_eq_true rfl⟩ ⟨Nat.le_of_ble_eq_true rfl, Nat.le_of_ble_eq_true rfl⟩ hP hK [0, 1] rfl 0 rfl rfl rfl hl.1 rfl (Nat.le_of_ble_eq_true rfl) d_X8_strike_4 (fun r_1 hr_2 => ?_)
  subst hr_2
  exact hret _ _ _ d_X8_strike_7 (rfl) (rfl)
set_option maxHeartbeats 4000000 in
set_option maxRecDepth 100000 in
theorem c_X8_aside (l : Launch) (D : va_G) (cI cZ cQ : ClassId) (x tx nw sp ac cr sg sl fl : Nat) (w y a u : Nat) (c1 : Int32) : cu_R l D (cu_TY cI cZ cQ) yX8_aside cX8_aside 2 .int 1 21 [.ref x, .int c1] [(x, .inr (6, [.ref tx, .ref nw, .ref sp, .ref ac, .ref cr, .ref sg, .ref sl, .ref fl, .null, .long 0])), (nw, .inr (2, [.ref w, .ref y, .ref a, .ref u, .int 0, .int 0, .int 1, .int 0]))] (fun r => r = (-1)) := by
  refine cu_R.intro (by decide) (Nat.le_of_ble_eq_true rfl) ?_
  intro p e s m args below meth c Q ls S hret hP hK hl
  obtain ⟨hx, hb, hml, hown, hg⟩ := S
  have hown : s.vm.findClass RX8 = some m.cls := hown
  have hl : lv_has ls 2 [(0, .ref x), (1, .int c1)] := hl
  refine lv_aload_n hx hb d_X8_aside_0 rfl (lv_at hl 0 rfl) ?_
  refine va_get (D := D) (ci := 6) (v := .ref nw) (C := RX8) (T := TX8) (N := 10) hx hb hg cu_iX8 hown hK.1 hP 0 rfl rfl 1 (by decide) (hg _ k_180) (fun _ h9 => h9) rfl d_X8_aside_1 ?_
  refine lv_iload_n hx hb d_X8_aside_4 rfl (lv_at hl 1 rfl) ?_
  refine cu_VR (wc := [(nw, .inr (2, [.ref w, .ref y, .ref a, .ref u, .int 0, .int 0, .int 1, .int 0]))]) (rest := []) [.int c1] ⟨hx, hb, hml, hown, hg⟩ (c_X3_hasCoin l D cI cZ cQ nw w y a u 1 0 c1) hd_X3_hasCoin k_281 k_278 k_279 k_280 k_45 ⟨Nat.le_of_ble_eq_true rfl, Nat.le_of_ble_eq_true rfl⟩ ⟨Nat.le_of_ble_eq_true rfl, Nat.le_of_ble_eq_true rfl⟩ hP hK [1] rfl 0 rfl rfl rfl hl.1 rfl (Nat.le_of_ble_eq_true rfl) d_X8_aside_5 (fun r_1 hr_2 => ?_)
  subst hr_2
  refine lv_if_ne (tgt := 13) hx hb d_X8_aside_8 (by decide) (fun c_3 => absurd (by decide +kernel) c_3) (fun _ => ?_)
  refine lv_iconst (v := (-1)) hx hb d_X8_aside_11 (by decide) ?_
  exact hret _ _ _ d_X8_aside_12 (rfl) (rfl)
set_option maxHeartbeats 4000000 in
set_option maxRecDepth 100000 in
theorem c_X8_setRate (l : Launch) (D : va_G) (cI cZ cQ : ClassId) (x tx nw sp ac cr sg sl fl : Nat) (w y a u : Nat) (k1 k2 k3 : Nat) (v : Int32) : cu_W l D (cu_TY cI cZ cQ) yX8_setRate cX8_setRate 2 .int 3 61 0 0 [.ref x, .int v] [(x, .inr (6, [.ref tx, .ref nw, .ref sp, .ref ac, .ref cr, .ref sg, .ref sl, .ref fl, .null, .long 0])), (nw, .inr (2, [.ref w, .ref y, .ref a, .ref u, .int 0, .int 0, .int 1, .int 0])), (ac, .inr (0, [.ref k1, .ref k2, .ref k3, .int 0, .int 0])), (k1, .inl (cI, 14, .inl (fun _ => 0))), (k2, .inl (cI, 14, .inl (fun _ => 0))), (k3, .inl (cI, 14, .inl (fun _ => 0)))] (fun r ww => (r = cu_s9 v) ∧ ww = []) := by
  refine cu_W.intro (by decide) (Nat.le_of_ble_eq_true rfl) ?_
  intro p e s m args below meth c Q ls A S hret hP hD hS hA hK hl
  obtain ⟨hx, hb, hml, hown, hg⟩ := S
  have hown : s.vm.findClass RX8 = some m.cls := hown
  have hl : lv_has ls 2 [(0, .ref x), (1, .int v)] := hl
  refine lv_aload_n hx hb d_X8_setRate_0 rfl (lv_at hl 0 rfl) ?_
  refine lv_iconst (v := 4) hx hb d_X8_setRate_1 (by decide) ?_
  refine lv_iconst (v := 0) hx hb d_X8_setRate_2 (by decide) ?_
  refine lv_iload_n hx hb d_X8_setRate_3 rfl (lv_at hl 1 rfl) ?_
  refine cu_VW (wc := [(x, .inr (6, [.ref tx, .ref nw, .ref sp, .ref ac, .ref cr, .ref sg, .ref sl, .ref fl, .null, .long 0])), (nw, .inr (2, [.ref w, .ref y, .ref a, .ref u, .int 0, .int 0, .int 1, .int 0])), (ac, .inr (0, [.ref k1, .ref k2, .ref k3, .int 0, .int 0])), (k1, .inl (cI, 14, .inl (fun _ => 0))), (k2, .inl (cI, 14, .inl (fun _ => 0))), (k3, .inl (cI, 14, .inl (fun _ => 0)))]) (wr := []) (rest := []) [.int 4, .int 0, .int v] ⟨hx, hb, hml, hown, hg⟩ (c_X8_act4 l D cI cZ cQ x tx nw sp ac cr sg sl fl w y a u k1 k2 k3 0 v) hd_X8_act k_348 k_345 k_347 k_6 k_43 ⟨Nat.le_of_ble_eq_true rfl, Nat.le_of_ble_eq_true rfl⟩ ⟨Nat.le_of_ble_eq_true rfl, Nat.le_of_ble_eq_true rfl⟩ hP hD hS hA hK [0, 1, 2, 3, 4, 5] [] rfl rfl (by decide) (by decide) (by decide) 0 rfl rfl rfl hl.1 rfl (Nat.le_of_ble_eq_true rfl) d_X8_setRate_4 (fun r_1 w_3 H locs hw_2 hP hD hS => ?_)
  obtain ⟨hr_4, rfl⟩ := hw_2
  subst hr_4
  have hP : va_P D vwCl [] H := hP
  have hD : va_D A [] := hD
  exact hret _ _ _ _ [] _ _ _ (hP.sub (ws' := []) [] rfl) (hD.sub (ws' := []) [] (by decide) rfl) hS (Nat.le_of_ble_eq_true rfl) (Nat.le_of_ble_eq_true rfl) d_X8_setRate_7 (rfl) ⟨rfl, rfl⟩
set_option maxHeartbeats 4000000 in
set_option maxRecDepth 100000 in
theorem c_X8_setLaw (l : Launch) (D : va_G) (cI cZ cQ : ClassId) (x tx nw sp ac cr sg sl fl : Nat) (w y a u : Nat) (k1 k2 k3 : Nat) (v : Int32) : cu_W l D (cu_TY cI cZ cQ) yX8_setLaw cX8_setLaw 2 .int 3 61 0 0 [.ref x, .int v] [(x, .inr (6, [.ref tx, .ref nw, .ref sp, .ref ac, .ref cr, .ref sg, .ref sl, .ref fl, .null, .long 0])), (nw, .inr (2, [.ref w, .ref y, .ref a, .ref u, .int 0, .int 0, .int 1, .int 0])), (ac, .inr (0, [.ref k1, .ref k2, .ref k3, .int 0, .int 0])), (k1, .inl (cI, 14, .inl (fun _ => 0))), (k2, .inl (cI, 14, .inl (fun _ => 0))), (k3, .inl (cI, 14, .inl (fun _ => 0)))] (fun r ww => (r = cu_s2 v 0) ∧ ww = []) := by
  refine cu_W.intro (by decide) (Nat.le_of_ble_eq_true rfl) ?_
  intro p e s m args below meth c Q ls A S hret hP hD hS hA hK hl
  obtain ⟨hx, hb, hml, hown, hg⟩ := S
  have hown : s.vm.findClass RX8 = some m.cls := hown
  have hl : lv_has ls 2 [(0, .ref x), (1, .int v)] := hl
  refine lv_aload_n hx hb d_X8_setLaw_0 rfl (lv_at hl 0 rfl) ?_
  refine lv_iconst (v := 5) hx hb d_X8_setLaw_1 (by decide) ?_
  refine lv_iconst (v := 0) hx hb d_X8_setLaw_2 (by decide) ?_
  refine lv_iload_n hx hb d_X8_setLaw_3 rfl (lv_at hl 1 rfl) ?_
  refine cu_VW (wc := [(x, .inr (6, [.ref tx, .ref nw, .ref sp, .ref ac, .ref cr, .ref sg, .ref sl, .ref fl, .null, .long 0])), (nw, .inr (2, [.ref w, .ref y, .ref a, .ref u, .int 0, .int 0, .int 1, .int 0])), (ac, .inr (0, [.ref k1, .ref k2, .ref k3, .int 0, .int 0])), (k1, .inl (cI, 14, .inl (fun _ => 0))), (k2, .inl (cI, 14, .inl (fun _ => 0))), (k3, .inl (cI, 14, .inl (fun _ => 0)))]) (wr := []) (rest := []) [.int 5, .int 0, .int v] ⟨hx, hb, hml, hown, hg⟩ (c_X8_act5 l D cI cZ cQ x tx nw sp ac cr sg sl fl w y a u k1 k2 k3 0 v) hd_X8_act k_348 k_345 k_347 k_6 k_43 ⟨Nat.le_of_ble_eq_true rfl, Nat.le_of_ble_eq_true rfl⟩ ⟨Nat.le_of_ble_eq_true rfl, Nat.le_of_ble_eq_true rfl⟩ hP hD hS hA hK [0, 1, 2, 3, 4, 5] [] rfl rfl (by decide) (by decide) (by decide) 0 rfl rfl rfl hl.1 rfl (Nat.le_of_ble_eq_true rfl) d_X8_setLaw_4 (fun r_1 w_3 H locs hw_2 hP hD hS => ?_)
  obtain ⟨hr_4, rfl⟩ := hw_2
  subst hr_4
  have hP : va_P D vwCl [] H := hP
  have hD : va_D A [] := hD
  exact hret _ _ _ _ [] _ _ _ (hP.sub (ws' := []) [] rfl) (hD.sub (ws' := []) [] (by decide) rfl) hS (Nat.le_of_ble_eq_true rfl) (Nat.le_of_ble_eq_true rfl) d_X8_setLaw_7 (rfl) ⟨rfl, rfl⟩
set_option maxHeartbeats 4000000 in
set_option maxRecDepth 100000 in
theorem c_X8_undo (l : Launch) (D : va_G) (cI cZ cQ : ClassId) (x tx nw sp ac cr sg sl fl : Nat) (k1 k2 k3 : Nat) : cu_R l D (cu_TY cI cZ cQ) yX8_undo cX8_undo 1 .int 0 0 [.ref x] [(x, .inr (6, [.ref tx, .ref nw, .ref sp, .ref ac, .ref cr, .ref sg, .ref sl, .ref fl, .null, .long 0])), (ac, .inr (0, [.ref k1, .ref k2, .ref k3, .int 0, .int 0]))] (fun r => r = (-3)) := by
  refine cu_R.intro (by decide) (Nat.le_of_ble_eq_true rfl) ?_
  intro p e s m args below meth c Q ls S hret hP hK hl
  obtain ⟨hx, hb, hml, hown, hg⟩ := S
  have hown : s.vm.findClass RX8 = some m.cls := hown
  have hl : lv_has ls 1 [(0, .ref x)] := hl
  refine lv_aload_n hx hb d_X8_undo_0 rfl (lv_at hl 0 rfl) ?_
  refine va_get (D := D) (ci := 6) (v := .ref ac) (C := RX8) (T := TX8) (N := 10) hx hb hg cu_iX8 hown hK.1 hP 0 rfl rfl 3 (by decide) (hg _ k_182) (fun _ h9 => h9) rfl d_X8_undo_1 ?_
  refine va_get (D := D) (ci := 0) (v := .int 0) (C := RX0) (T := TX0) (N := 5) hx hb hg cu_iX0 hown hK.1 hP 1 rfl rfl 4 (by decide) (hg _ k_132) (fun _ h9 => h9) rfl d_X8_undo_4 ?_
  refine lv_if_ne (tgt := 13) hx hb d_X8_undo_7 (by decide) (fun c_1 => absurd (by decide +kernel) c_1) (fun _ => ?_)
  refine lv_bipush (v := (-3)) hx hb d_X8_undo_10 (by decide) ?_
  exact hret _ _ _ d_X8_undo_12 (rfl) (rfl)
set_option maxHeartbeats 4000000 in
set_option maxRecDepth 100000 in
theorem c_X8_fits (l : Launch) (D : va_G) (cI cZ cQ : ClassId) (x tx nw sp ac cr sg sl fl : Nat) (w y a u : Nat) (c1 c2 c3 : Int32) : cu_R l D (cu_TY cI cZ cQ) yX8_fits cX8_fits 7 .int 1 21 [.ref x, .int c1, .int c2, .int c3] [(x, .inr (6, [.ref tx, .ref nw, .ref sp, .ref ac, .ref cr, .ref sg, .ref sl, .ref fl, .null, .long 0])), (nw, .inr (2, [.ref w, .ref y, .ref a, .ref u, .int 0, .int 0, .int 1, .int 0]))] (fun r => r = (-1)) := by
  refine cu_R.intro (by decide) (Nat.le_of_ble_eq_true rfl) ?_
  intro p e s m args below meth c Q ls S hret hP hK hl
  obtain ⟨hx, hb, hml, hown, hg⟩ := S
  have hown : s.vm.findClass RX8 = some m.cls := hown
  have hl : lv_has ls 7 [(0, .ref x), (1, .int c1), (2, .int c2), (3, .int c3)] := hl
  refine lv_aload_n hx hb d_X8_fits_0 rfl (lv_at hl 0 rfl) ?_
  refine va_get (D := D) (ci := 6) (v := .ref nw) (C := RX8) (T := TX8) (N := 10) hx hb hg cu_iX8 hown hK.1 hP 0 rfl rfl 1 (by decide) (hg _ k_180) (fun _ h9 => h9) rfl d_X8_fits_1 ?_
  refine lv_iload_n hx hb d_X8_fits_4 rfl (lv_at hl 1 rfl) ?_
  refine cu_VR (wc := [(nw, .inr (2, [.ref w, .ref y, .ref a, .ref u, .int 0, .int 0, .int 1, .int 0]))]) (rest := []) [.int c1] ⟨hx, hb, hml, hown, hg⟩ (c_X3_hasCoin l D cI cZ cQ nw w y a u 1 0 c1) hd_X3_hasCoin k_281 k_278 k_279 k_280 k_45 ⟨Nat.le_of_ble_eq_true rfl, Nat.le_of_ble_eq_true rfl⟩ ⟨Nat.le_of_ble_eq_true rfl, Nat.le_of_ble_eq_true rfl⟩ hP hK [1] rfl 0 rfl rfl rfl hl.1 rfl (Nat.le_of_ble_eq_true rfl) d_X8_fits_5 (fun r_1 hr_2 => ?_)
  subst hr_2
  refine lv_if_ne (tgt := 13) hx hb d_X8_fits_8 (by decide) (fun c_3 => absurd (by decide +kernel) c_3) (fun _ => ?_)
  refine lv_iconst (v := (-1)) hx hb d_X8_fits_11 (by decide) ?_
  exact hret _ _ _ d_X8_fits_12 (rfl) (rfl)
set_option maxHeartbeats 4000000 in
set_option maxRecDepth 100000 in
theorem c_X8_chain (l : Launch) (D : va_G) (cI cZ cQ : ClassId) (x tx nw sp ac cr sg sl fl : Nat) (w y a u : Nat) (c1 c2 : Int32) : cu_R l D (cu_TY cI cZ cQ) yX8_chain cX8_chain 4 .int 1 21 [.ref x, .int c1, .int c2] [(x, .inr (6, [.ref tx, .ref nw, .ref sp, .ref ac, .ref cr, .ref sg, .ref sl, .ref fl, .null, .long 0])), (nw, .inr (2, [.ref w, .ref y, .ref a, .ref u, .int 0, .int 0, .int 1, .int 0]))] (fun r => r = (-1)) := by
  refine cu_R.intro (by decide) (Nat.le_of_ble_eq_true rfl) ?_
  intro p e s m args below meth c Q ls S hret hP hK hl
  obtain ⟨hx, hb, hml, hown, hg⟩ := S
  have hown : s.vm.findClass RX8 = some m.cls := hown
  have hl : lv_has ls 4 [(0, .ref x), (1, .int c1), (2, .int c2)] := hl
  refine lv_aload_n hx hb d_X8_chain_0 rfl (lv_at hl 0 rfl) ?_
  refine va_get (D := D) (ci := 6) (v := .ref nw) (C := RX8) (T := TX8) (N := 10) hx hb hg cu_iX8 hown hK.1 hP 0 rfl rfl 1 (by decide) (hg _ k_180) (fun _ h9 => h9) rfl d_X8_chain_1 ?_
  refine lv_iload_n hx hb d_X8_chain_4 rfl (lv_at hl 1 rfl) ?_
  refine cu_VR (wc := [(nw, .inr (2, [.ref w, .ref y, .ref a, .ref u, .int 0, .int 0, .int 1, .int 0]))]) (rest := []) [.int c1] ⟨hx, hb, hml, hown, hg⟩ (c_X3_hasCoin l D cI cZ cQ nw w y a u 1 0 c1) hd_X3_hasCoin k_281 k_278 k_279 k_280 k_45 ⟨Nat.le_of_ble_eq_true rfl, Nat.le_of_ble_eq_true rfl⟩ ⟨Nat.le_of_ble_eq_true rfl, Nat.le_of_ble_eq_true rfl⟩ hP hK [1] rfl 0 rfl rfl rfl hl.1 rfl (Nat.le_of_ble_eq_true rfl) d_X8_chain_5 (fun r_1 hr_2 => ?_)
  subst hr_2
  refine lv_if_ne (tgt := 13) hx hb d_X8_chain_8 (by decide) (fun c_3 => absurd (by decide +kernel) c_3) (fun _ => ?_)
  refine lv_iconst (v := (-1)) hx hb d_X8_chain_11 (by decide) ?_
  exact hret _ _ _ d_X8_chain_12 (rfl) (rfl)
set_option maxHeartbeats 4000000 in
set_option maxRecDepth 100000 in
theorem c_X8_see (l : Launch) (D : va_G) (cI cZ cQ : ClassId) (x tx nw sp ac cr sg sl fl : Nat) (w y a u : Nat) (c1 c2 : Int32) : cu_R l D (cu_TY cI cZ cQ) yX8_see cX8_see 3 .int 1 21 [.ref x, .int c1, .int c2] [(x, .inr (6, [.ref tx, .ref nw, .ref sp, .ref ac, .ref cr, .ref sg, .ref sl, .ref fl, .null, .long 0])), (nw, .inr (2, [.ref w, .ref y, .ref a, .ref u, .int 0, .int 0, .int 1, .int 0]))] (fun r => r = (-1)) := by
  refine cu_R.intro (by decide) (Nat.le_of_ble_eq_true rfl) ?_
  intro p e s m args below meth c Q ls S hret hP hK hl
  obtain ⟨hx, hb, hml, hown, hg⟩ := S
  have hown : s.vm.findClass RX8 = some m.cls := hown
  have hl : lv_has ls 3 [(0, .ref x), (1, .int c1), (2, .int c2)] := hl
  refine lv_aload_n hx hb d_X8_see_0 rfl (lv_at hl 0 rfl) ?_
  refine va_get (D := D) (ci := 6) (v := .ref nw) (C := RX8) (T := TX8) (N := 10) hx hb hg cu_iX8 hown hK.1 hP 0 rfl rfl 1 (by decide) (hg _ k_180) (fun _ h9 => h9) rfl d_X8_see_1 ?_
  refine lv_iload_n hx hb d_X8_see_4 rfl (lv_at hl 1 rfl) ?_
  refine cu_VR (wc := [(nw, .inr (2, [.ref w, .ref y, .ref a, .ref u, .int 0, .int 0, .int 1, .int 0]))]) (rest := []) [.int c1] ⟨hx, hb, hml, hown, hg⟩ (c_X3_hasCoin l D cI cZ cQ nw w y a u 1 0 c1) hd_X3_hasCoin k_281 k_278 k_279 k_280 k_45 ⟨Nat.le_of_ble_eq_true rfl, Nat.le_of_ble_eq_true rfl⟩ ⟨Nat.le_of_ble_eq_true rfl, Nat.le_of_ble_eq_true rfl⟩ hP hK [1] rfl 0 rfl rfl rfl hl.1 rfl (Nat.le_of_ble_eq_true rfl) d_X8_see_5 (fun r_1 hr_2 => ?_)
  subst hr_2
  refine lv_if_ne (tgt := 13) hx hb d_X8_see_8 (by decide) (fun c_3 => absurd (by decide +kernel) c_3) (fun _ => ?_)
  refine lv_iconst (v := (-1)) hx hb d_X8_see_11 (by decide) ?_
  exact hret _ _ _ d_X8_see_12 (rfl) (rfl)
set_option maxHeartbeats 4000000 in
set_option maxRecDepth 100000 in
theorem c_X8_unsee (l : Launch) (D : va_G) (cI cZ cQ : ClassId) (x tx nw sp ac cr sg sl fl : Nat) (g1 g2 : Nat) : cu_W l D (cu_TY cI cZ cQ) yX8_unsee cX8_unsee 2 .int 0 0 0 0 [.ref x] [(x, .inr (6, [.ref tx, .ref nw, .ref sp, .ref ac, .ref cr, .ref sg, .ref sl, .ref fl, .null, .long 0])), (sg, .inr (3, [.ref g1, .ref g2, .int 0]))] (fun r ww => (r = 0) ∧ ww = []) := by
  refine cu_W.intro (by decide) (Nat.le_of_ble_eq_true rfl) ?_
  intro p e s m args below meth c Q ls A S hret hP hD hS hA hK hl
  obtain ⟨hx, hb, hml, hown, hg⟩ := S
  have hown : s.vm.findClass RX8 = some m.cls := hown
  have hl : lv_has ls 2 [(0, .ref x)] := hl
  refine lv_aload_n hx hb d_X8_unsee_0 rfl (lv_at hl 0 rfl) ?_
  refine va_get (D := D) (ci := 6) (v := .ref sg) (C := RX8) (T := TX8) (N := 10) hx hb hg cu_iX8 hown hK.1 hP 0 rfl rfl 5 (by decide) (hg _ k_184) (fun _ h9 => h9) rfl d_X8_unsee_1 ?_
  refine va_get (D := D) (ci := 3) (v := .int 0) (C := RX4) (T := TX4) (N := 3) hx hb hg cu_iX4 hown hK.1 hP 1 rfl rfl 2 (by decide) (hg _ k_169) (fun _ h9 => h9) rfl d_X8_unsee_4 ?_
  refine lv_istore_n (lv' := [(1, .int 0), (0, .ref x)]) hx hb d_X8_unsee_7 rfl hl (by decide) rfl (fun ls hl => ?_)
  refine lv_aload_n hx hb d_X8_unsee_8 rfl (lv_at hl 1 rfl) ?_
  refine va_get (D := D) (ci := 6) (v := .ref sg) (C := RX8) (T := TX8) (N := 10) hx hb hg cu_iX8 hown hK.1 hP 0 rfl rfl 5 (by decide) (hg _ k_184) (fun _ h9 => h9) rfl d_X8_unsee_9 ?_
  refine lv_iconst (v := 0) hx hb d_X8_unsee_12 (by decide) ?_
  refine va_put (D := D) (ci := 3) (v := .int 0) (ty := .int) (C := RX4) (T := TX4) (N := 3) hx hb hg cu_iX4 tyX4 tyX4_ok nmX4 hown hK.1 hP hD hS 1 rfl rfl 2 (by decide) (hg _ k_169) (fun _ h9 => h9) rfl (by decide +kernel) rfl rfl (Nat.le_of_ble_eq_true rfl) d_X8_unsee_13 (fun H locs hP hD hS => ?_)
  have hP : va_P D vwCl [(x, .inr (6, [.ref tx, .ref nw, .ref sp, .ref ac, .ref cr, .ref sg, .ref sl, .ref fl, .null, .long 0])), (sg, .inr (3, [.ref g1, .ref g2, .int 0]))] H := hP
  have hD : va_D A [(x, .inr (6, [.ref tx, .ref nw, .ref sp, .ref ac, .ref cr, .ref sg, .ref sl, .ref fl, .null, .long 0])), (sg, .inr (3, [.ref g1, .ref g2, .int 0]))] := hD
  refine lv_iload_n hx hb d_X8_unsee_16 rfl (lv_at hl 0 rfl) ?_
  exact hret _ _ _ _ [] _ _ _ (hP.sub (ws' := []) [] rfl) (hD.sub (ws' := []) [] (by decide) rfl) hS (Nat.le_of_ble_eq_true rfl) (Nat.le_of_ble_eq_true rfl) d_X8_unsee_17 (rfl) ⟨rfl, rfl⟩
set_option maxHeartbeats 4000000 in
set_option maxRecDepth 100000 in
theorem c_X8_share (l : Launch) (D : va_G) (cI cZ cQ : ClassId) (x tx nw sp ac cr sg sl fl : Nat) (w y a u : Nat) (c1 c2 : Int32) : cu_R l D (cu_TY cI cZ cQ) yX8_share cX8_share 3 .int 1 21 [.ref x, .int c1, .int c2] [(x, .inr (6, [.ref tx, .ref nw, .ref sp, .ref ac, .ref cr, .ref sg, .ref sl, .ref fl, .null, .long 0])), (nw, .inr (2, [.ref w, .ref y, .ref a, .ref u, .int 0, .int 0, .int 1, .int 0]))] (fun r => r = (-1)) := by
  refine cu_R.intro (by decide) (Nat.le_of_ble_eq_true rfl) ?_
  intro p e s m args below meth c Q ls S hret hP hK hl
  obtain ⟨hx, hb, hml, hown, hg⟩ := S
  have hown : s.vm.findClass RX8 = some m.cls := hown
  have hl : lv_has ls 3 [(0, .ref x), (1, .int c1), (2, .int c2)] := hl
  refine lv_aload_n hx hb d_X8_share_0 rfl (lv_at hl 0 rfl) ?_
  refine va_get (D := D) (ci := 6) (v := .ref nw) (C := RX8) (T := TX8) (N := 10) hx hb hg cu_iX8 hown hK.1 hP 0 rfl rfl 1 (by decide) (hg _ k_180) (fun _ h9 => h9) rfl d_X8_share_1 ?_
  refine lv_iload_n hx hb d_X8_share_4 rfl (lv_at hl 1 rfl) ?_
  refine cu_VR (wc := [(nw, .inr (2, [.ref w, .ref y, .ref a, .ref u, .int 0, .int 0, .int 1, .int 0]))]) (rest := []) [.int c1] ⟨hx, hb, hml, hown, hg⟩ (c_X3_hasCoin l D cI cZ cQ nw w y a u 1 0 c1) hd_X3_hasCoin k_281 k_278 k_279 k_280 k_45 ⟨Nat.le_of_ble_eq_true rfl, Nat.le_of_ble_eq_true rfl⟩ ⟨Nat.le_of_ble_eq_true rfl, Nat.le_of_ble_eq_true rfl⟩ hP hK [1] rfl 0 rfl rfl rfl hl.1 rfl (Nat.le_of_ble_eq_true rfl) d_X8_share_5 (fun r_1 hr_2 => ?_)
  subst hr_2
  refine lv_if_ne (tgt := 13) hx hb d_X8_share_8 (by decide) (fun c_3 => absurd (by decide +kernel) c_3) (fun _ => ?_)
  refine lv_iconst (v := (-1)) hx hb d_X8_share_11 (by decide) ?_
  exact hret _ _ _ d_X8_share_12 (rfl) (rfl)
set_option maxHeartbeats 4000000 in
set_option maxRecDepth 100000 in
theorem c_X8_seed (l : Launch) (D : va_G) (cI cZ cQ : ClassId) (x tx nw sp ac cr sg sl fl : Nat) (v : Int64) : cu_L l D (cu_TY cI cZ cQ) yX8_seed cX8_seed 5 0 0 0 0 [.ref x, .long v] [(x, .inr (6, [.ref tx, .ref nw, .ref sp, .ref ac, .ref cr, .ref sg, .ref sl, .ref fl, .null, .long 0]))] (fun r ww => (r = 0) ∧ ww = []) := by
  refine cu_L.intro (by decide) (Nat.le_of_ble_eq_true rfl) ?_
  intro p e s m args below meth c Q ls A S hret hP hD hS hA hK hl
  obtain ⟨hx, hb, hml, hown, hg⟩ := S
  have hown : s.vm.findClass RX8 = some m.cls := hown
  have hl : lv_has ls 5 [(0, .ref x), (1, .long v)] := hl
  refine lv_aload_n hx hb d_X8_seed_0 rfl (lv_at hl 0 rfl) ?_
  refine va_get (D := D) (ci := 6) (v := .long 0) (C := RX8) (T := TX8) (N := 10) hx hb hg cu_iX8 hown hK.1 hP 0 rfl rfl 9 (by decide) (hg _ k_188) (fun _ h9 => h9) rfl d_X8_seed_1 ?_
  refine lv_lstore_n (lv' := [(3, .long 0), (0, .ref x), (1, .long v)]) hx hb d_X8_seed_4 rfl hl (by decide) rfl (fun ls hl => ?_)
  refine lv_aload_n hx hb d_X8_seed_5 rfl (lv_at hl 1 rfl) ?_
  refine lv_lload_n hx hb d_X8_seed_6 rfl (lv_at hl 2 rfl) ?_
  refine va_put (D := D) (ci := 6) (v := .long v) (ty := .long) (C := RX8) (T := TX8) (N := 10) hx hb hg cu_iX8 tyX8 tyX8_ok nmX8 hown hK.1 hP hD hS 0 rfl rfl 9 (by decide) (hg _ k_188) (fun _ h9 => h9) rfl (by decide +kernel) rfl rfl (Nat.le_of_ble_eq_true rfl) d_X8_seed_7 (fun H locs hP hD hS => ?_)
  have hP : va_P D vwCl [(x, .inr (6, [.ref tx, .ref nw, .ref sp, .ref ac, .ref cr, .ref sg, .ref sl, .ref fl, .null, .long v]))] H := hP
  have hD : va_D A [(x, .inr (6, [.ref tx, .ref nw, .ref sp, .ref ac, .ref cr, .ref sg, .ref sl, .ref fl, .null, .long v]))] := hD
  refine lv_lload_n hx hb d_X8_seed_10 rfl (lv_at hl 0 rfl) ?_
  exact hret _ _ _ _ [] _ _ _ (hP.sub (ws' := []) [] rfl) (hD.sub (ws' := []) [] (by decide) rfl) hS (Nat.le_of_ble_eq_true rfl) (Nat.le_of_ble_eq_true rfl) d_X8_seed_11 ⟨rfl, rfl⟩
def cu_sag (c1 : Int32) : Int32 := if c1 < 0 then (-1) else if c1 < 2 then (-3) else (-1)
set_option maxHeartbeats 4000000 in
set_option maxRecDepth 100000 in
theorem c_X8_again (l : Launch) (D : va_G) (cI cZ cQ : ClassId) (x tx nw sp ac cr sg sl fl : Nat) (c1 : Int32) : cu_R l D (cu_TY cI cZ cQ) yX8_again cX8_again 2 .int 0 0 [.ref x, .int c1] [(x, .inr (6, [.ref tx, .ref nw, .ref sp, .ref ac, .ref cr, .ref sg, .ref sl, .ref fl, .null, .long 0])), (fl, .inl (cZ, 2, .inl (fun _ => 0)))] (fun r => r = cu_sag c1) := by
  refine cu_R.intro (by decide) (Nat.le_of_ble_eq_true rfl) ?_
  intro p e s m args below meth c Q ls S hret hP hK hl
  obtain ⟨hx, hb, hml, hown, hg⟩ := S
  have hown : s.vm.findClass RX8 = some m.cls := hown
  have hl : lv_has ls 2 [(0, .ref x), (1, .int c1)] := hl
  refine lv_iload_n hx hb d_X8_again_0 rfl (lv_at hl 1 rfl) ?_
  refine lv_if_lt (tgt := 9) hx hb d_X8_again_1 (by decide) (fun c_1 => ?_) (fun c_1 => ?_)
  · skip
    refine lv_iconst (v := (-1)) hx hb d_X8_again_9 (by decide) ?_
    exact hret _ _ _ d_X8_again_10 (rfl) (by unfold cu_sag; rw [if_pos c_1])
  · skip
    refine lv_iload_n hx hb d_X8_again_4 rfl (lv_at hl 1 rfl) ?_
    refine lv_iconst (v := 2) hx hb d_X8_again_5 (by decide) ?_
    refine lv_icmp_lt (tgt := 11) hx hb d_X8_again_6 (by decide) (fun c_2 => ?_) (fun c_2 => ?_)
    · skip
      refine lv_aload_n hx hb d_X8_again_11 rfl (lv_at hl 0 rfl) ?_
      refine va_get (D := D) (ci := 6) (v := .ref fl) (C := RX8) (T := TX8) (N := 10) hx hb hg cu_iX8 hown hK.1 hP 0 rfl rfl 7 (by decide) (hg _ k_186) (fun _ h9 => h9) rfl d_X8_again_12 ?_
      refine lv_iload_n hx hb d_X8_again_15 rfl (lv_at hl 1 rfl) ?_
      refine va_zald hx hb hK.1 hP 1 1 rfl rfl (cu_in2 c_1 c_2) d_X8_again_16 ?_
      refine cu_topi (y := 0) rfl ?_
      refine lv_if_ne (tgt := 23) hx hb d_X8_again_17 (by decide) (fun c_3 => absurd (by decide +kernel) c_3) (fun _ => ?_)
      refine lv_bipush (v := (-3)) hx hb d_X8_again_20 (by decide) ?_
      exact hret _ _ _ d_X8_again_22 (rfl) (by unfold cu_sag; rw [if_neg c_1, if_pos c_2])
    · skip
      refine lv_iconst (v := (-1)) hx hb d_X8_again_9 (by decide) ?_
      exact hret _ _ _ d_X8_again_10 (rfl) (by unfold cu_sag; rw [if_neg c_1, if_neg c_2])
def cu_sct (c1 : Int32) : Int32 := if c1 = 0 then 0 else if c1 = 1 then 0 else if c1 = 2 then 0 else if c1 = 3 then 1 else if c1 = 4 then 0 else if c1 = 5 then 0 else if c1 = 6 then 0 else if c1 = 7 then 0 else if c1 = 8 then 0 else (-2)
set_option maxHeartbeats 4000000 in
set_option maxRecDepth 100000 in
theorem c_X8_count (l : Launch) (D : va_G) (cI cZ cQ : ClassId) (x tx nw sp ac cr sg sl fl : Nat) (w y a u : Nat) (ts k1 k2 k3 g1 g2 : Nat) (c1 : Int32) : cu_R l D (cu_TY cI cZ cQ) yX8_count cX8_count 2 .int 1 23 [.ref x, .int c1] [(x, .inr (6, [.ref tx, .ref nw, .ref sp, .ref ac, .ref cr, .ref sg, .ref sl, .ref fl, .null, .long 0])), (nw, .inr (2, [.ref w, .ref y, .ref a, .ref u, .int 0, .int 0, .int 1, .int 0])), (tx, .inr (5, [.ref ts, .int 0])), (ac, .inr (0, [.ref k1, .ref k2, .ref k3, .int 0, .int 0])), (sg, .inr (3, [.ref g1, .ref g2, .int 0]))] (fun r => r = cu_sct c1) := by
  refine cu_R.intro (by decide) (Nat.le_of_ble_eq_true rfl) ?_
  intro p e s m args below meth c Q ls S hret hP hK hl
  obtain ⟨hx, hb, hml, hown, hg⟩ := S
  have hown : s.vm.findClass RX8 = some m.cls := hown
  have hl : lv_has ls 2 [(0, .ref x), (1, .int c1)] := hl
  refine lv_iload_n hx hb d_X8_count_0 rfl (lv_at hl 1 rfl) ?_
  by_cases hk_1 : c1 = 0
  · skip
    refine cu_topi (y := 0) hk_1 ?_
    refine lv_tableIn (off := 51) (tgt := 52) hx hb d_X8_count_1 (by decide) (by decide) (by decide +kernel) (by decide) ?_
    refine lv_aload_n hx hb d_X8_count_52 rfl (lv_at hl 0 rfl) ?_
    refine va_get (D := D) (ci := 6) (v := .ref tx) (C := RX8) (T := TX8) (N := 10) hx hb hg cu_iX8 hown hK.1 hP 0 rfl rfl 0 (by decide) (hg _ k_179) (fun _ h9 => h9) rfl d_X8_count_53 ?_
    refine va_get (D := D) (ci := 5) (v := .int 0) (C := RX7) (T := TX7) (N := 2) hx hb hg cu_iX7 hown hK.1 hP 2 rfl rfl 1 (by decide) (hg _ k_71) (fun _ h9 => h9) rfl d_X8_count_56 ?_
    exact hret _ _ _ d_X8_count_59 (rfl) (by unfold cu_sct; rw [if_pos hk_1])
  · skip
    by_cases hk_2 : c1 = 1
    · skip
      refine cu_topi (y := 1) hk_2 ?_
      refine lv_tableIn (off := 59) (tgt := 60) hx hb d_X8_count_1 (by decide) (by decide) (by decide +kernel) (by decide) ?_
      refine lv_aload_n hx hb d_X8_count_60 rfl (lv_at hl 0 rfl) ?_
      refine va_get (D := D) (ci := 6) (v := .ref nw) (C := RX8) (T := TX8) (N := 10) hx hb hg cu_iX8 hown hK.1 hP 0 rfl rfl 1 (by decide) (hg _ k_180) (fun _ h9 => h9) rfl d_X8_count_61 ?_
      refine va_get (D := D) (ci := 2) (v := .int 0) (C := RX3) (T := TX3) (N := 8) hx hb hg cu_iX3 hown hK.1 hP 1 rfl rfl 4 (by decide) (hg _ k_96) (fun _ h9 => h9) rfl d_X8_count_64 ?_
      exact hret _ _ _ d_X8_count_67 (rfl) (by unfold cu_sct; rw [if_neg hk_1, if_pos hk_2])
    · skip
      by_cases hk_3 : c1 = 2
      · skip
        refine cu_topi (y := 2) hk_3 ?_
        refine lv_tableIn (off := 67) (tgt := 68) hx hb d_X8_count_1 (by decide) (by decide) (by decide +kernel) (by decide) ?_
        refine lv_aload_n hx hb d_X8_count_68 rfl (lv_at hl 0 rfl) ?_
        refine va_get (D := D) (ci := 6) (v := .ref nw) (C := RX8) (T := TX8) (N := 10) hx hb hg cu_iX8 hown hK.1 hP 0 rfl rfl 1 (by decide) (hg _ k_180) (fun _ h9 => h9) rfl d_X8_count_69 ?_
        refine va_get (D := D) (ci := 2) (v := .int 0) (C := RX3) (T := TX3) (N := 8) hx hb hg cu_iX3 hown hK.1 hP 1 rfl rfl 5 (by decide) (hg _ k_99) (fun _ h9 => h9) rfl d_X8_count_72 ?_
        exact hret _ _ _ d_X8_count_75 (rfl) (by unfold cu_sct; rw [if_neg hk_1, if_neg hk_2, if_pos hk_3])
      · skip
        by_cases hk_4 : c1 = 3
        · skip
          refine cu_topi (y := 3) hk_4 ?_
          refine lv_tableIn (off := 75) (tgt := 76) hx hb d_X8_count_1 (by decide) (by decide) (by decide +kernel) (by decide) ?_
          refine lv_aload_n hx hb d_X8_count_76 rfl (lv_at hl 0 rfl) ?_
          refine va_get (D := D) (ci := 6) (v := .ref nw) (C := RX8) (T := TX8) (N := 10) hx hb hg cu_iX8 hown hK.1 hP 0 rfl rfl 1 (by decide) (hg _ k_180) (fun _ h9 => h9) rfl d_X8_count_77 ?_
          refine va_get (D := D) (ci := 2) (v := .int 1) (C := RX3) (T := TX3) (N := 8) hx hb hg cu_iX3 hown hK.1 hP 1 rfl rfl 6 (by decide) (hg _ k_101) (fun _ h9 => h9) rfl d_X8_count_80 ?_
          exact hret _ _ _ d_X8_count_83 (rfl) (by unfold cu_sct; rw [if_neg hk_1, if_neg hk_2, if_neg hk_3, if_pos hk_4])
        · skip
          by_cases hk_5 : c1 = 4
          · skip
            refine cu_topi (y := 4) hk_5 ?_
            refine lv_tableIn (off := 83) (tgt := 84) hx hb d_X8_count_1 (by decide) (by decide) (by decide +kernel) (by decide) ?_
            refine lv_aload_n hx hb d_X8_count_84 rfl (lv_at hl 0 rfl) ?_
            refine va_get (D := D) (ci := 6) (v := .ref nw) (C := RX8) (T := TX8) (N := 10) hx hb hg cu_iX8 hown hK.1 hP 0 rfl rfl 1 (by decide) (hg _ k_180) (fun _ h9 => h9) rfl d_X8_count_85 ?_
            refine va_get (D := D) (ci := 2) (v := .int 0) (C := RX3) (T := TX3) (N := 8) hx hb hg cu_iX3 hown hK.1 hP 1 rfl rfl 7 (by decide) (hg _ k_103) (fun _ h9 => h9) rfl d_X8_count_88 ?_
            exact hret _ _ _ d_X8_count_91 (rfl) (by unfold cu_sct; rw [if_neg hk_1, if_neg hk_2, if_neg hk_3, if_neg hk_4, if_pos hk_5])
          · skip
            by_cases hk_6 : c1 = 5
            · skip
              refine cu_topi (y := 5) hk_6 ?_
              refine lv_tableIn (off := 91) (tgt := 92) hx hb d_X8_count_1 (by decide) (by decide) (by decide +kernel) (by decide) ?_
              refine lv_aload_n hx hb d_X8_count_92 rfl (lv_at hl 0 rfl) ?_
              refine va_get (D := D) (ci := 6) (v := .ref nw) (C := RX8) (T := TX8) (N := 10) hx hb hg cu_iX8 hown hK.1 hP 0 rfl rfl 1 (by decide) (hg _ k_180) (fun _ h9 => h9) rfl d_X8_count_93 ?_
              refine cu_VR (wc := [(nw, .inr (2, [.ref w, .ref y, .ref a, .ref u, .int 0, .int 0, .int 1, .int 0]))]) (rest := []) [] ⟨hx, hb, hml, hown, hg⟩ (c_X3_setAside l D cI cZ cQ nw w y a u 1 0) hd_X3_setAside k_677 k_674 k_675 k_676 k_45 ⟨Nat.le_of_ble_eq_true rfl, Nat.le_of_ble_eq_true rfl⟩ ⟨Nat.le_of_ble_eq_true rfl, Nat.le_of_ble_eq_true rfl⟩ hP hK [1] rfl 0 rfl rfl rfl hl.1 rfl (Nat.le_of_ble_eq_true rfl) d_X8_count_96 (fun r_7 hr_8 => ?_)
              subst hr_8
              exact hret _ _ _ d_X8_count_99 (rfl) (by unfold cu_sct; rw [if_neg hk_1, if_neg hk_2, if_neg hk_3, if_neg hk_4, if_neg hk_5, if_pos hk_6])
            · skip
              by_cases hk_9 : c1 = 6
              · skip
                refine cu_topi (y := 6) hk_9 ?_
                refine lv_tableIn (off := 99) (tgt := 100) hx hb d_X8_count_1 (by decide) (by decide) (by decide +kernel) (by decide) ?_
                refine lv_aload_n hx hb d_X8_count_100 rfl (lv_at hl 0 rfl) ?_
                refine va_get (D := D) (ci := 6) (v := .ref nw) (C := RX8) (T := TX8) (N := 10) hx hb hg cu_iX8 hown hK.1 hP 0 rfl rfl 1 (by decide) (hg _ k_180) (fun _ h9 => h9) rfl d_X8_count_101 ?_
                refine lv_bipush (v := (-9)) hx hb d_X8_count_104 (by decide) ?_
                refine cu_VR (wc := [(nw, .inr (2, [.ref w, .ref y, .ref a, .ref u, .int 0, .int 0, .int 1, .int 0]))]) (rest := []) [.int (-9)] ⟨hx, hb, hml, hown, hg⟩ (c_X3_setOfMint l D cI cZ cQ nw w y a u 1 0 (-9)) hd_X3_setOfMint k_325 k_322 k_323 k_324 k_45 ⟨Nat.le_of_ble_eq_true rfl, Nat.le_of_ble_eq_true rfl⟩ ⟨Nat.le_of_ble_eq_true rfl, Nat.le_of_ble_eq_true rfl⟩ hP hK [1] rfl 0 rfl rfl rfl hl.1 rfl (Nat.le_of_ble_eq_true rfl) d_X8_count_106 (fun r_10 hr_11 => ?_)
                subst hr_11
                exact hret _ _ _ d_X8_count_109 (rfl) (by unfold cu_sct; rw [if_neg hk_1, if_neg hk_2, if_neg hk_3, if_neg hk_4, if_neg hk_5, if_neg hk_6, if_pos hk_9])
              · skip
                by_cases hk_12 : c1 = 7
                · skip
                  refine cu_topi (y := 7) hk_12 ?_
                  refine lv_tableIn (off := 109) (tgt := 110) hx hb d_X8_count_1 (by decide) (by decide) (by decide +kernel) (by decide) ?_
                  refine lv_aload_n hx hb d_X8_count_110 rfl (lv_at hl 0 rfl) ?_
                  refine va_get (D := D) (ci := 6) (v := .ref ac) (C := RX8) (T := TX8) (N := 10) hx hb hg cu_iX8 hown hK.1 hP 0 rfl rfl 3 (by decide) (hg _ k_182) (fun _ h9 => h9) rfl d_X8_count_111 ?_
                  refine va_get (D := D) (ci := 0) (v := .int 0) (C := RX0) (T := TX0) (N := 5) hx hb hg cu_iX0 hown hK.1 hP 3 rfl rfl 4 (by decide) (hg _ k_132) (fun _ h9 => h9) rfl d_X8_count_114 ?_
                  exact hret _ _ _ d_X8_count_117 (rfl) (by unfold cu_sct; rw [if_neg hk_1, if_neg hk_2, if_neg hk_3, if_neg hk_4, if_neg hk_5, if_neg hk_6, if_neg hk_9, if_pos hk_12])
                · skip
                  by_cases hk_13 : c1 = 8
                  · skip
                    refine cu_topi (y := 8) hk_13 ?_
                    refine lv_tableIn (off := 117) (tgt := 118) hx hb d_X8_count_1 (by decide) (by decide) (by decide +kernel) (by decide) ?_
                    refine lv_aload_n hx hb d_X8_count_118 rfl (lv_at hl 0 rfl) ?_
                    refine va_get (D := D) (ci := 6) (v := .ref sg) (C := RX8) (T := TX8) (N := 10) hx hb hg cu_iX8 hown hK.1 hP 0 rfl rfl 5 (by decide) (hg _ k_184) (fun _ h9 => h9) rfl d_X8_count_119 ?_
                    refine va_get (D := D) (ci := 3) (v := .int 0) (C := RX4) (T := TX4) (N := 3) hx hb hg cu_iX4 hown hK.1 hP 4 rfl rfl 2 (by decide) (hg _ k_169) (fun _ h9 => h9) rfl d_X8_count_122 ?_
                    exact hret _ _ _ d_X8_count_125 (rfl) (by unfold cu_sct; rw [if_neg hk_1, if_neg hk_2, if_neg hk_3, if_neg hk_4, if_neg hk_5, if_neg hk_6, if_neg hk_9, if_neg hk_12, if_pos hk_13])
                  · skip
                    refine lv_tableOut (tgt := 126) hx hb d_X8_count_1 (cu_out9 hk_1 hk_2 hk_3 hk_4 hk_5 hk_6 hk_9 hk_12 hk_13) (by decide) ?_
                    refine lv_bipush (v := (-2)) hx hb d_X8_count_126 (by decide) ?_
                    exact hret _ _ _ d_X8_count_128 (rfl) (by unfold cu_sct; rw [if_neg hk_1, if_neg hk_2, if_neg hk_3, if_neg hk_4, if_neg hk_5, if_neg hk_6, if_neg hk_9, if_neg hk_12, if_neg hk_13])
end
