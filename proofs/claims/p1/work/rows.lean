section
-- ===== PART A: goes FIRST, ahead of the names: the tables' words, and 'selects' of the private methods out of them =====
/-- a private method of a class that the tables say can be made, by its rows of tables_1 -/
def lw_okq (q : MethodName × Nat) : Prop := (q.1.cls ≠ "java/lang/invoke/MethodHandle" ∧ q.1.cls ≠ "java/lang/invoke/VarHandle") ∧ Cond.instantiable q.1.cls q.2 ∈ tables_1 ∧ Cond.privateMethod q.1 ∈ tables_1 ∧ Cond.instanceMethod q.1 ∈ tables_1
theorem lw_p0 : lw_okq (⟨"CommonUnits$Text", "signAt", "(I)I"⟩, 2) := ⟨⟨by decide +kernel, by decide +kernel⟩, List.mem_of_getElem? (i := 22) (by decide +kernel), List.mem_of_getElem? (i := 189) (by decide +kernel), List.mem_of_getElem? (i := 190) (by decide +kernel)⟩
theorem lw_p1 : lw_okq (⟨"CommonUnits$Text", "digitAt", "(I)I"⟩, 2) := ⟨⟨by decide +kernel, by decide +kernel⟩, List.mem_of_getElem? (i := 22) (by decide +kernel), List.mem_of_getElem? (i := 193) (by decide +kernel), List.mem_of_getElem? (i := 194) (by decide +kernel)⟩
theorem lw_p2 : lw_okq (⟨"CommonUnits$Text", "readPart", "(ILCommonUnits$Hoard;)I"⟩, 2) := ⟨⟨by decide +kernel, by decide +kernel⟩, List.mem_of_getElem? (i := 22) (by decide +kernel), List.mem_of_getElem? (i := 201) (by decide +kernel), List.mem_of_getElem? (i := 202) (by decide +kernel)⟩
theorem lw_p3 : lw_okq (⟨"CommonUnits$Text", "numberFault", "(I)I"⟩, 2) := ⟨⟨by decide +kernel, by decide +kernel⟩, List.mem_of_getElem? (i := 22) (by decide +kernel), List.mem_of_getElem? (i := 205) (by decide +kernel), List.mem_of_getElem? (i := 206) (by decide +kernel)⟩
theorem lw_p4 : lw_okq (⟨"CommonUnits$Text", "numberAt", "(I)I"⟩, 2) := ⟨⟨by decide +kernel, by decide +kernel⟩, List.mem_of_getElem? (i := 22) (by decide +kernel), List.mem_of_getElem? (i := 209) (by decide +kernel), List.mem_of_getElem? (i := 210) (by decide +kernel)⟩
theorem lw_p5 : lw_okq (⟨"CommonUnits$Hoard", "mintFor", "(II)I"⟩, 8) := ⟨⟨by decide +kernel, by decide +kernel⟩, List.mem_of_getElem? (i := 37) (by decide +kernel), List.mem_of_getElem? (i := 255) (by decide +kernel), List.mem_of_getElem? (i := 256) (by decide +kernel)⟩
theorem lw_p6 : lw_okq (⟨"CommonUnits", "act", "(III)I"⟩, 10) := ⟨⟨by decide +kernel, by decide +kernel⟩, List.mem_of_getElem? (i := 14) (by decide +kernel), List.mem_of_getElem? (i := 304) (by decide +kernel), List.mem_of_getElem? (i := 305) (by decide +kernel)⟩
theorem lw_p7 : lw_okq (⟨"CommonUnits", "surveyNow", "()LCommonUnits$Survey;"⟩, 10) := ⟨⟨by decide +kernel, by decide +kernel⟩, List.mem_of_getElem? (i := 14) (by decide +kernel), List.mem_of_getElem? (i := 380) (by decide +kernel), List.mem_of_getElem? (i := 381) (by decide +kernel)⟩
theorem lw_p8 : lw_okq (⟨"CommonUnits$Survey", "fillColumn", "(III)V"⟩, 11) := ⟨⟨by decide +kernel, by decide +kernel⟩, List.mem_of_getElem? (i := 384) (by decide +kernel), List.mem_of_getElem? (i := 434) (by decide +kernel), List.mem_of_getElem? (i := 435) (by decide +kernel)⟩
theorem lw_p9 : lw_okq (⟨"CommonUnits$Survey", "keyOf", "(I)I"⟩, 11) := ⟨⟨by decide +kernel, by decide +kernel⟩, List.mem_of_getElem? (i := 384) (by decide +kernel), List.mem_of_getElem? (i := 445) (by decide +kernel), List.mem_of_getElem? (i := 446) (by decide +kernel)⟩
theorem lw_p10 : lw_okq (⟨"CommonUnits$Survey", "sort", "()V"⟩, 11) := ⟨⟨by decide +kernel, by decide +kernel⟩, List.mem_of_getElem? (i := 384) (by decide +kernel), List.mem_of_getElem? (i := 458) (by decide +kernel), List.mem_of_getElem? (i := 459) (by decide +kernel)⟩
theorem lw_p11 : lw_okq (⟨"CommonUnits$Survey", "bestUnit", "()I"⟩, 11) := ⟨⟨by decide +kernel, by decide +kernel⟩, List.mem_of_getElem? (i := 384) (by decide +kernel), List.mem_of_getElem? (i := 470) (by decide +kernel), List.mem_of_getElem? (i := 471) (by decide +kernel)⟩
theorem lw_p12 : lw_okq (⟨"CommonUnits$Survey", "countedColumns", "()I"⟩, 11) := ⟨⟨by decide +kernel, by decide +kernel⟩, List.mem_of_getElem? (i := 384) (by decide +kernel), List.mem_of_getElem? (i := 474) (by decide +kernel), List.mem_of_getElem? (i := 475) (by decide +kernel)⟩
theorem lw_p13 : lw_okq (⟨"CommonUnits$Survey", "leastWith", "(I)I"⟩, 11) := ⟨⟨by decide +kernel, by decide +kernel⟩, List.mem_of_getElem? (i := 384) (by decide +kernel), List.mem_of_getElem? (i := 478) (by decide +kernel), List.mem_of_getElem? (i := 479) (by decide +kernel)⟩
theorem lw_p14 : lw_okq (⟨"CommonUnits$Survey", "width", "()I"⟩, 11) := ⟨⟨by decide +kernel, by decide +kernel⟩, List.mem_of_getElem? (i := 384) (by decide +kernel), List.mem_of_getElem? (i := 483) (by decide +kernel), List.mem_of_getElem? (i := 484) (by decide +kernel)⟩
theorem lw_p15 : lw_okq (⟨"CommonUnits$Survey", "jointLack", "(IIII)I"⟩, 11) := ⟨⟨by decide +kernel, by decide +kernel⟩, List.mem_of_getElem? (i := 384) (by decide +kernel), List.mem_of_getElem? (i := 487) (by decide +kernel), List.mem_of_getElem? (i := 488) (by decide +kernel)⟩
def lw_privs_1 : List (MethodName × Nat) := [(⟨"CommonUnits$Text", "signAt", "(I)I"⟩, 2), (⟨"CommonUnits$Text", "digitAt", "(I)I"⟩, 2), (⟨"CommonUnits$Text", "readPart", "(ILCommonUnits$Hoard;)I"⟩, 2), (⟨"CommonUnits$Text", "numberFault", "(I)I"⟩, 2), (⟨"CommonUnits$Text", "numberAt", "(I)I"⟩, 2), (⟨"CommonUnits$Hoard", "mintFor", "(II)I"⟩, 8), (⟨"CommonUnits", "act", "(III)I"⟩, 10), (⟨"CommonUnits", "surveyNow", "()LCommonUnits$Survey;"⟩, 10), (⟨"CommonUnits$Survey", "fillColumn", "(III)V"⟩, 11), (⟨"CommonUnits$Survey", "keyOf", "(I)I"⟩, 11), (⟨"CommonUnits$Survey", "sort", "()V"⟩, 11), (⟨"CommonUnits$Survey", "bestUnit", "()I"⟩, 11), (⟨"CommonUnits$Survey", "countedColumns", "()I"⟩, 11), (⟨"CommonUnits$Survey", "leastWith", "(I)I"⟩, 11), (⟨"CommonUnits$Survey", "width", "()I"⟩, 11), (⟨"CommonUnits$Survey", "jointLack", "(IIII)I"⟩, 11)]
theorem lw_r1 : ∀ q ∈ lw_privs_1, lw_okq q := List.forall_mem_cons.mpr ⟨lw_p0, List.forall_mem_cons.mpr ⟨lw_p1, List.forall_mem_cons.mpr ⟨lw_p2, List.forall_mem_cons.mpr ⟨lw_p3, List.forall_mem_cons.mpr ⟨lw_p4, List.forall_mem_cons.mpr ⟨lw_p5, List.forall_mem_cons.mpr ⟨lw_p6, List.forall_mem_cons.mpr ⟨lw_p7, List.forall_mem_cons.mpr ⟨lw_p8, List.forall_mem_cons.mpr ⟨lw_p9, List.forall_mem_cons.mpr ⟨lw_p10, List.forall_mem_cons.mpr ⟨lw_p11, List.forall_mem_cons.mpr ⟨lw_p12, List.forall_mem_cons.mpr ⟨lw_p13, List.forall_mem_cons.mpr ⟨lw_p14, List.forall_mem_cons.mpr ⟨lw_p15, fun _ h => absurd h List.not_mem_nil⟩⟩⟩⟩⟩⟩⟩⟩⟩⟩⟩⟩⟩⟩⟩⟩
theorem lw_p16 : lw_okq (⟨"CommonUnits$Survey", "findUpper", "(II)V"⟩, 11) := ⟨⟨by decide +kernel, by decide +kernel⟩, List.mem_of_getElem? (i := 384) (by decide +kernel), List.mem_of_getElem? (i := 492) (by decide +kernel), List.mem_of_getElem? (i := 493) (by decide +kernel)⟩
theorem lw_p17 : lw_okq (⟨"CommonUnits$Hoard", "lackOf", "(II)I"⟩, 8) := ⟨⟨by decide +kernel, by decide +kernel⟩, List.mem_of_getElem? (i := 37) (by decide +kernel), List.mem_of_getElem? (i := 522) (by decide +kernel), List.mem_of_getElem? (i := 523) (by decide +kernel)⟩
theorem lw_p18 : lw_okq (⟨"CommonUnits$Crowd", "markSubsets", "()V"⟩, 3) := ⟨⟨by decide +kernel, by decide +kernel⟩, List.mem_of_getElem? (i := 103) (by decide +kernel), List.mem_of_getElem? (i := 569) (by decide +kernel), List.mem_of_getElem? (i := 570) (by decide +kernel)⟩
theorem lw_p19 : lw_okq (⟨"CommonUnits$Crowd", "fillValues", "()V"⟩, 3) := ⟨⟨by decide +kernel, by decide +kernel⟩, List.mem_of_getElem? (i := 103) (by decide +kernel), List.mem_of_getElem? (i := 573) (by decide +kernel), List.mem_of_getElem? (i := 574) (by decide +kernel)⟩
theorem lw_p20 : lw_okq (⟨"CommonUnitsModel", "readHoard", "()I"⟩, 28) := ⟨⟨by decide +kernel, by decide +kernel⟩, List.mem_of_getElem? (i := 637) (by decide +kernel), List.mem_of_getElem? (i := 744) (by decide +kernel), List.mem_of_getElem? (i := 745) (by decide +kernel)⟩
theorem lw_p21 : lw_okq (⟨"CommonUnitsModel", "isFigure", "(III)Z"⟩, 28) := ⟨⟨by decide +kernel, by decide +kernel⟩, List.mem_of_getElem? (i := 637) (by decide +kernel), List.mem_of_getElem? (i := 748) (by decide +kernel), List.mem_of_getElem? (i := 749) (by decide +kernel)⟩
theorem lw_p22 : lw_okq (⟨"CommonUnitsModel", "canStand", "(III)Z"⟩, 28) := ⟨⟨by decide +kernel, by decide +kernel⟩, List.mem_of_getElem? (i := 637) (by decide +kernel), List.mem_of_getElem? (i := 752) (by decide +kernel), List.mem_of_getElem? (i := 753) (by decide +kernel)⟩
theorem lw_p23 : lw_okq (⟨"CommonUnitsModel", "three", "(I)I"⟩, 28) := ⟨⟨by decide +kernel, by decide +kernel⟩, List.mem_of_getElem? (i := 637) (by decide +kernel), List.mem_of_getElem? (i := 756) (by decide +kernel), List.mem_of_getElem? (i := 757) (by decide +kernel)⟩
theorem lw_p24 : lw_okq (⟨"CommonUnitsModel", "noCoin", "(I)Z"⟩, 28) := ⟨⟨by decide +kernel, by decide +kernel⟩, List.mem_of_getElem? (i := 637) (by decide +kernel), List.mem_of_getElem? (i := 771) (by decide +kernel), List.mem_of_getElem? (i := 772) (by decide +kernel)⟩
theorem lw_p25 : lw_okq (⟨"CommonUnitsModel", "ofMint", "([II)I"⟩, 28) := ⟨⟨by decide +kernel, by decide +kernel⟩, List.mem_of_getElem? (i := 637) (by decide +kernel), List.mem_of_getElem? (i := 778) (by decide +kernel), List.mem_of_getElem? (i := 779) (by decide +kernel)⟩
theorem lw_p26 : lw_okq (⟨"CommonUnitsModel", "mintOf", "([III)I"⟩, 28) := ⟨⟨by decide +kernel, by decide +kernel⟩, List.mem_of_getElem? (i := 637) (by decide +kernel), List.mem_of_getElem? (i := 782) (by decide +kernel), List.mem_of_getElem? (i := 783) (by decide +kernel)⟩
theorem lw_p27 : lw_okq (⟨"CommonUnitsModel", "manyMints", "([II)I"⟩, 28) := ⟨⟨by decide +kernel, by decide +kernel⟩, List.mem_of_getElem? (i := 637) (by decide +kernel), List.mem_of_getElem? (i := 789) (by decide +kernel), List.mem_of_getElem? (i := 790) (by decide +kernel)⟩
theorem lw_p28 : lw_okq (⟨"CommonUnitsModel", "noMint", "(I)Z"⟩, 28) := ⟨⟨by decide +kernel, by decide +kernel⟩, List.mem_of_getElem? (i := 637) (by decide +kernel), List.mem_of_getElem? (i := 800) (by decide +kernel), List.mem_of_getElem? (i := 801) (by decide +kernel)⟩
theorem lw_p29 : lw_okq (⟨"CommonUnitsModel", "change", "(II)I"⟩, 28) := ⟨⟨by decide +kernel, by decide +kernel⟩, List.mem_of_getElem? (i := 637) (by decide +kernel), List.mem_of_getElem? (i := 816) (by decide +kernel), List.mem_of_getElem? (i := 817) (by decide +kernel)⟩
theorem lw_p30 : lw_okq (⟨"CommonUnitsModel", "note", "()V"⟩, 28) := ⟨⟨by decide +kernel, by decide +kernel⟩, List.mem_of_getElem? (i := 637) (by decide +kernel), List.mem_of_getElem? (i := 820) (by decide +kernel), List.mem_of_getElem? (i := 821) (by decide +kernel)⟩
theorem lw_p31 : lw_okq (⟨"CommonUnitsModel", "layFitting", "([I)V"⟩, 28) := ⟨⟨by decide +kernel, by decide +kernel⟩, List.mem_of_getElem? (i := 637) (by decide +kernel), List.mem_of_getElem? (i := 868) (by decide +kernel), List.mem_of_getElem? (i := 869) (by decide +kernel)⟩
def lw_privs_2 : List (MethodName × Nat) := [(⟨"CommonUnits$Survey", "findUpper", "(II)V"⟩, 11), (⟨"CommonUnits$Hoard", "lackOf", "(II)I"⟩, 8), (⟨"CommonUnits$Crowd", "markSubsets", "()V"⟩, 3), (⟨"CommonUnits$Crowd", "fillValues", "()V"⟩, 3), (⟨"CommonUnitsModel", "readHoard", "()I"⟩, 28), (⟨"CommonUnitsModel", "isFigure", "(III)Z"⟩, 28), (⟨"CommonUnitsModel", "canStand", "(III)Z"⟩, 28), (⟨"CommonUnitsModel", "three", "(I)I"⟩, 28), (⟨"CommonUnitsModel", "noCoin", "(I)Z"⟩, 28), (⟨"CommonUnitsModel", "ofMint", "([II)I"⟩, 28), (⟨"CommonUnitsModel", "mintOf", "([III)I"⟩, 28), (⟨"CommonUnitsModel", "manyMints", "([II)I"⟩, 28), (⟨"CommonUnitsModel", "noMint", "(I)Z"⟩, 28), (⟨"CommonUnitsModel", "change", "(II)I"⟩, 28), (⟨"CommonUnitsModel", "note", "()V"⟩, 28), (⟨"CommonUnitsModel", "layFitting", "([I)V"⟩, 28)]
theorem lw_r2 : ∀ q ∈ lw_privs_2, lw_okq q := List.forall_mem_cons.mpr ⟨lw_p16, List.forall_mem_cons.mpr ⟨lw_p17, List.forall_mem_cons.mpr ⟨lw_p18, List.forall_mem_cons.mpr ⟨lw_p19, List.forall_mem_cons.mpr ⟨lw_p20, List.forall_mem_cons.mpr ⟨lw_p21, List.forall_mem_cons.mpr ⟨lw_p22, List.forall_mem_cons.mpr ⟨lw_p23, List.forall_mem_cons.mpr ⟨lw_p24, List.forall_mem_cons.mpr ⟨lw_p25, List.forall_mem_cons.mpr ⟨lw_p26, List.forall_mem_cons.mpr ⟨lw_p27, List.forall_mem_cons.mpr ⟨lw_p28, List.forall_mem_cons.mpr ⟨lw_p29, List.forall_mem_cons.mpr ⟨lw_p30, List.forall_mem_cons.mpr ⟨lw_p31, fun _ h => absurd h List.not_mem_nil⟩⟩⟩⟩⟩⟩⟩⟩⟩⟩⟩⟩⟩⟩⟩⟩
theorem lw_p32 : lw_okq (⟨"CommonUnitsModel", "open", "([I)I"⟩, 28) := ⟨⟨by decide +kernel, by decide +kernel⟩, List.mem_of_getElem? (i := 637) (by decide +kernel), List.mem_of_getElem? (i := 872) (by decide +kernel), List.mem_of_getElem? (i := 873) (by decide +kernel)⟩
theorem lw_p33 : lw_okq (⟨"CommonUnitsModel", "lossOf", "(II)I"⟩, 28) := ⟨⟨by decide +kernel, by decide +kernel⟩, List.mem_of_getElem? (i := 637) (by decide +kernel), List.mem_of_getElem? (i := 876) (by decide +kernel), List.mem_of_getElem? (i := 877) (by decide +kernel)⟩
theorem lw_p34 : lw_okq (⟨"CommonUnitsModel", "rankOf", "([II)I"⟩, 28) := ⟨⟨by decide +kernel, by decide +kernel⟩, List.mem_of_getElem? (i := 637) (by decide +kernel), List.mem_of_getElem? (i := 880) (by decide +kernel), List.mem_of_getElem? (i := 881) (by decide +kernel)⟩
theorem lw_p35 : lw_okq (⟨"CommonUnitsModel", "keyOf", "([II)I"⟩, 28) := ⟨⟨by decide +kernel, by decide +kernel⟩, List.mem_of_getElem? (i := 637) (by decide +kernel), List.mem_of_getElem? (i := 884) (by decide +kernel), List.mem_of_getElem? (i := 885) (by decide +kernel)⟩
theorem lw_p36 : lw_okq (⟨"CommonUnitsModel", "layPair", "([I)V"⟩, 28) := ⟨⟨by decide +kernel, by decide +kernel⟩, List.mem_of_getElem? (i := 637) (by decide +kernel), List.mem_of_getElem? (i := 898) (by decide +kernel), List.mem_of_getElem? (i := 899) (by decide +kernel)⟩
theorem lw_p37 : lw_okq (⟨"CommonUnitsModel", "lossOfPair", "(III)I"⟩, 28) := ⟨⟨by decide +kernel, by decide +kernel⟩, List.mem_of_getElem? (i := 637) (by decide +kernel), List.mem_of_getElem? (i := 902) (by decide +kernel), List.mem_of_getElem? (i := 903) (by decide +kernel)⟩
theorem lw_p38 : lw_okq (⟨"CommonUnitsModel", "does", "(I)Z"⟩, 28) := ⟨⟨by decide +kernel, by decide +kernel⟩, List.mem_of_getElem? (i := 637) (by decide +kernel), List.mem_of_getElem? (i := 914) (by decide +kernel), List.mem_of_getElem? (i := 915) (by decide +kernel)⟩
theorem lw_p39 : lw_okq (⟨"CommonUnitsModel", "firstUnit", "([I)I"⟩, 28) := ⟨⟨by decide +kernel, by decide +kernel⟩, List.mem_of_getElem? (i := 637) (by decide +kernel), List.mem_of_getElem? (i := 919) (by decide +kernel), List.mem_of_getElem? (i := 920) (by decide +kernel)⟩
theorem lw_p40 : lw_okq (⟨"CommonUnitsModel", "weigh", "()V"⟩, 28) := ⟨⟨by decide +kernel, by decide +kernel⟩, List.mem_of_getElem? (i := 637) (by decide +kernel), List.mem_of_getElem? (i := 939) (by decide +kernel), List.mem_of_getElem? (i := 940) (by decide +kernel)⟩
theorem lw_p41 : lw_okq (⟨"CommonUnitsModel", "falseOnes", "()I"⟩, 28) := ⟨⟨by decide +kernel, by decide +kernel⟩, List.mem_of_getElem? (i := 637) (by decide +kernel), List.mem_of_getElem? (i := 983) (by decide +kernel), List.mem_of_getElem? (i := 984) (by decide +kernel)⟩
def lw_privs_3 : List (MethodName × Nat) := [(⟨"CommonUnitsModel", "open", "([I)I"⟩, 28), (⟨"CommonUnitsModel", "lossOf", "(II)I"⟩, 28), (⟨"CommonUnitsModel", "rankOf", "([II)I"⟩, 28), (⟨"CommonUnitsModel", "keyOf", "([II)I"⟩, 28), (⟨"CommonUnitsModel", "layPair", "([I)V"⟩, 28), (⟨"CommonUnitsModel", "lossOfPair", "(III)I"⟩, 28), (⟨"CommonUnitsModel", "does", "(I)Z"⟩, 28), (⟨"CommonUnitsModel", "firstUnit", "([I)I"⟩, 28), (⟨"CommonUnitsModel", "weigh", "()V"⟩, 28), (⟨"CommonUnitsModel", "falseOnes", "()I"⟩, 28)]
theorem lw_r3 : ∀ q ∈ lw_privs_3, lw_okq q := List.forall_mem_cons.mpr ⟨lw_p32, List.forall_mem_cons.mpr ⟨lw_p33, List.forall_mem_cons.mpr ⟨lw_p34, List.forall_mem_cons.mpr ⟨lw_p35, List.forall_mem_cons.mpr ⟨lw_p36, List.forall_mem_cons.mpr ⟨lw_p37, List.forall_mem_cons.mpr ⟨lw_p38, List.forall_mem_cons.mpr ⟨lw_p39, List.forall_mem_cons.mpr ⟨lw_p40, List.forall_mem_cons.mpr ⟨lw_p41, fun _ h => absurd h List.not_mem_nil⟩⟩⟩⟩⟩⟩⟩⟩⟩⟩
def lw_privs : List (MethodName × Nat) := lw_privs_1 ++ (lw_privs_2 ++ (lw_privs_3))
def lw_tbl : List Cond := k2_sels lw_privs ++ tables_1
theorem lw_privs_ok : ∀ q ∈ lw_privs, lw_okq q := by
  show ∀ q ∈ lw_privs_1 ++ (lw_privs_2 ++ (lw_privs_3)), lw_okq q
  exact List.forall_mem_append.mpr ⟨lw_r1, List.forall_mem_append.mpr ⟨lw_r2, lw_r3⟩⟩
theorem goodIn_r {big : List Cond} (ws : List Cond) (ps : List Nat) (hp : ws = ps.filterMap (fun i => big[i]?)) (h : ws.all goodWord = true) : GoodIn big ws := by
  intro w hw
  have h1 := List.all_eq_true.mp h w hw
  rw [hp] at hw
  obtain ⟨i, -, hi⟩ := List.mem_filterMap.mp hw
  have hm : w ∈ big := by first | exact List.mem_of_getElem? hi | exact List.getElem?_mem hi
  exact ⟨hm, good_of_word h1⟩
theorem goodIn_app {big a b : List Cond} (ha : GoodIn big a) (hb : GoodIn big b) : GoodIn big (a ++ b) := fun w h => (List.mem_append.mp h).elim (ha w) (hb w)
theorem goodIn_ca {big a b : List Cond} {c : Cond} (ha : GoodIn big (c :: a)) (hb : GoodIn big b) : GoodIn big (c :: (a ++ b)) := fun w h => (List.mem_cons.mp h).elim (fun e => ha w (List.mem_cons.mpr (Or.inl e))) (fun h => (List.mem_append.mp h).elim (fun h => ha w (List.mem_cons.mpr (Or.inr h))) (hb w))
theorem goodIn_sub {big ws : List Cond} (hm : ∀ w ∈ ws, w ∈ big) (h : ws.all goodWord = true) : GoodIn big ws := fun w hw => ⟨hm w hw, good_of_word (List.all_eq_true.mp h w hw)⟩
def RX0 : String := "CommonUnits$Acts"
def TX0 : u_T := fun k => match k with
  | 0 => ("CommonUnits$Acts", "kinds", "[I", true)
  | 1 => ("CommonUnits$Acts", "indexes", "[I", true)
  | 2 => ("CommonUnits$Acts", "befores", "[I", true)
  | 3 => ("CommonUnits$Acts", "next", "I", false)
  | _ => ("CommonUnits$Acts", "size", "I", false)
def tyX0 : Nat → FieldType := fun k => match k with
  | 0 => .array .int
  | 1 => .array .int
  | 2 => .array .int
  | 3 => .int
  | _ => .int
abbrev wsX00 : List Cond := u_ws RX0 TX0 5
theorem nmX0 : ∀ a, a < 5 → ∀ b, b < 5 → a ≠ b → (TX0 a).2.1 ≠ (TX0 b).2.1 := by decide +kernel
theorem tyX0_ok : ∀ k, k < 5 → parseFieldDescriptor (TX0 k).2.2.1 = some (tyX0 k) := by decide +kernel
abbrev cX0_init : ByteArray := prog_2_method_1_code
def yX0_init : MethodName := ⟨RX0, "<init>", "()V"⟩
abbrev cX0_add : ByteArray := prog_2_method_2_code
def yX0_add : MethodName := ⟨RX0, "add", "(III)V"⟩
abbrev cX0_takeBack : ByteArray := prog_2_method_3_code
def yX0_takeBack : MethodName := ⟨RX0, "takeBack", "(LCommonUnits$Hoard;)V"⟩
abbrev cX0_forget : ByteArray := prog_2_method_4_code
def yX0_forget : MethodName := ⟨RX0, "forget", "()V"⟩
def RX1 : String := "CommonUnits$Crowd"
def TX1 : u_T := fun k => match k with
  | 0 => ("CommonUnits$Crowd", "values", "[I", true)
  | 1 => ("CommonUnits$Crowd", "version", "I", false)
  | _ => ("CommonUnits$Crowd", "size", "I", false)
def tyX1 : Nat → FieldType := fun k => match k with
  | 0 => .array .int
  | 1 => .int
  | _ => .int
abbrev wsX10 : List Cond := u_ws RX1 TX1 3
theorem nmX1 : ∀ a, a < 3 → ∀ b, b < 3 → a ≠ b → (TX1 a).2.1 ≠ (TX1 b).2.1 := by decide +kernel
theorem tyX1_ok : ∀ k, k < 3 → parseFieldDescriptor (TX1 k).2.2.1 = some (tyX1 k) := by decide +kernel
abbrev cX1_init : ByteArray := prog_3_method_1_code
def yX1_init : MethodName := ⟨RX1, "<init>", "()V"⟩
abbrev cX1_gather : ByteArray := prog_3_method_2_code
def yX1_gather : MethodName := ⟨RX1, "gather", "(LCommonUnits$Survey;I)V"⟩
abbrev cX1_markSubsets : ByteArray := prog_3_method_3_code
def yX1_markSubsets : MethodName := ⟨RX1, "markSubsets", "()V"⟩
abbrev cX1_fillValues : ByteArray := prog_3_method_4_code
def yX1_fillValues : MethodName := ⟨RX1, "fillValues", "()V"⟩
abbrev cX1_shareOf : ByteArray := prog_3_method_5_code
def yX1_shareOf : MethodName := ⟨RX1, "shareOf", "(IZ)I"⟩
abbrev cX1_factorial : ByteArray := prog_3_method_6_code
def yX1_factorial : MethodName := ⟨RX1, "factorial", "(I)I"⟩
abbrev cX1_chanceOfUnit : ByteArray := prog_3_method_7_code
def yX1_chanceOfUnit : MethodName := ⟨RX1, "chanceOfUnit", "(IZ)I"⟩
abbrev cX1_power : ByteArray := prog_3_method_8_code
def yX1_power : MethodName := ⟨RX1, "power", "(II)I"⟩
abbrev cX1_partOfFraction : ByteArray := prog_3_method_9_code
def yX1_partOfFraction : MethodName := ⟨RX1, "partOfFraction", "(IIZ)I"⟩
def RX2 : String := "CommonUnits$Fit"
def TX2 : u_T := fun k => match k with
  | _ => ("", "", "", false)
def tyX2 : Nat → FieldType := fun k => match k with
  | _ => .int
abbrev wsX20 : List Cond := u_ws RX2 TX2 0
theorem nmX2 : ∀ a, a < 0 → ∀ b, b < 0 → a ≠ b → (TX2 a).2.1 ≠ (TX2 b).2.1 := by decide +kernel
theorem tyX2_ok : ∀ k, k < 0 → parseFieldDescriptor (TX2 k).2.2.1 = some (tyX2 k) := by decide +kernel
abbrev cX2_isUnit : ByteArray := prog_4_method_2_code
def yX2_isUnit : MethodName := ⟨RX2, "isUnit", "(I)Z"⟩
abbrev cX2_multiple : ByteArray := prog_4_method_3_code
def yX2_multiple : MethodName := ⟨RX2, "multiple", "(II)I"⟩
abbrev cX2_loss : ByteArray := prog_4_method_4_code
def yX2_loss : MethodName := ⟨RX2, "loss", "(III)I"⟩
abbrev cX2_reason : ByteArray := prog_4_method_5_code
def yX2_reason : MethodName := ⟨RX2, "reason", "(III)I"⟩
abbrev cX2_excess : ByteArray := prog_4_method_6_code
def yX2_excess : MethodName := ⟨RX2, "excess", "(III)I"⟩
abbrev cX2_lack : ByteArray := prog_4_method_7_code
def yX2_lack : MethodName := ⟨RX2, "lack", "(III)I"⟩
def RX3 : String := "CommonUnits$Hoard"
def TX3 : u_T := fun k => match k with
  | 0 => ("CommonUnits$Hoard", "weights", "[I", true)
  | 1 => ("CommonUnits$Hoard", "years", "[I", true)
  | 2 => ("CommonUnits$Hoard", "asides", "[I", true)
  | 3 => ("CommonUnits$Hoard", "units", "[I", true)
  | 4 => ("CommonUnits$Hoard", "coins", "I", false)
  | 5 => ("CommonUnits$Hoard", "mints", "I", false)
  | 6 => ("CommonUnits$Hoard", "rate", "I", false)
  | _ => ("CommonUnits$Hoard", "law", "I", false)
def tyX3 : Nat → FieldType := fun k => match k with
  | 0 => .array .int
  | 1 => .array .int
  | 2 => .array .int
  | 3 => .array .int
  | 4 => .int
  | 5 => .int
  | 6 => .int
  | _ => .int
abbrev wsX30 : List Cond := u_ws RX3 TX3 8
theorem nmX3 : ∀ a, a < 8 → ∀ b, b < 8 → a ≠ b → (TX3 a).2.1 ≠ (TX3 b).2.1 := by decide +kernel
theorem tyX3_ok : ∀ k, k < 8 → parseFieldDescriptor (TX3 k).2.2.1 = some (tyX3 k) := by decide +kernel
abbrev cX3_init : ByteArray := prog_5_method_1_code
def yX3_init : MethodName := ⟨RX3, "<init>", "()V"⟩
abbrev cX3_copyFrom : ByteArray := prog_5_method_2_code
def yX3_copyFrom : MethodName := ⟨RX3, "copyFrom", "(LCommonUnits$Hoard;)V"⟩
abbrev cX3_start : ByteArray := prog_5_method_3_code
def yX3_start : MethodName := ⟨RX3, "start", "(II)V"⟩
abbrev cX3_addCoin : ByteArray := prog_5_method_4_code
def yX3_addCoin : MethodName := ⟨RX3, "addCoin", "(II)V"⟩
abbrev cX3_addMint : ByteArray := prog_5_method_5_code
def yX3_addMint : MethodName := ⟨RX3, "addMint", "(I)V"⟩
abbrev cX3_hasCoin : ByteArray := prog_5_method_6_code
def yX3_hasCoin : MethodName := ⟨RX3, "hasCoin", "(I)Z"⟩
abbrev cX3_hasMint : ByteArray := prog_5_method_7_code
def yX3_hasMint : MethodName := ⟨RX3, "hasMint", "(I)Z"⟩
abbrev cX3_counts : ByteArray := prog_5_method_8_code
def yX3_counts : MethodName := ⟨RX3, "counts", "(I)Z"⟩
abbrev cX3_counted : ByteArray := prog_5_method_9_code
def yX3_counted : MethodName := ⟨RX3, "counted", "()I"⟩
abbrev cX3_placeOf : ByteArray := prog_5_method_10_code
def yX3_placeOf : MethodName := ⟨RX3, "placeOf", "(I)I"⟩
abbrev cX3_put : ByteArray := prog_5_method_11_code
def yX3_put : MethodName := ⟨RX3, "put", "(III)I"⟩
abbrev cX3_exchange : ByteArray := prog_5_method_12_code
def yX3_exchange : MethodName := ⟨RX3, "exchange", "([IIIIII)I"⟩
abbrev cX3_greatestWear : ByteArray := prog_5_method_13_code
def yX3_greatestWear : MethodName := ⟨RX3, "greatestWear", "(I)I"⟩
abbrev cX3_wearOf : ByteArray := prog_5_method_14_code
def yX3_wearOf : MethodName := ⟨RX3, "wearOf", "(I)I"⟩
abbrev cX3_lossOf : ByteArray := prog_5_method_15_code
def yX3_lossOf : MethodName := ⟨RX3, "lossOf", "(II)I"⟩
abbrev cX3_mintOf : ByteArray := prog_5_method_16_code
def yX3_mintOf : MethodName := ⟨RX3, "mintOf", "(I)I"⟩
abbrev cX3_mintFor : ByteArray := prog_5_method_17_code
def yX3_mintFor : MethodName := ⟨RX3, "mintFor", "(II)I"⟩
abbrev cX3_mintsThatFit : ByteArray := prog_5_method_18_code
def yX3_mintsThatFit : MethodName := ⟨RX3, "mintsThatFit", "(I)I"⟩
abbrev cX3_setAside : ByteArray := prog_5_method_19_code
def yX3_setAside : MethodName := ⟨RX3, "setAside", "()I"⟩
abbrev cX3_setOfMint : ByteArray := prog_5_method_20_code
def yX3_setOfMint : MethodName := ⟨RX3, "setOfMint", "(I)I"⟩
abbrev cX3_explainedBy : ByteArray := prog_5_method_21_code
def yX3_explainedBy : MethodName := ⟨RX3, "explainedBy", "(I)I"⟩
abbrev cX3_lossesOf : ByteArray := prog_5_method_22_code
def yX3_lossesOf : MethodName := ⟨RX3, "lossesOf", "(II)I"⟩
abbrev cX3_bestUnit : ByteArray := prog_5_method_23_code
def yX3_bestUnit : MethodName := ⟨RX3, "bestUnit", "()I"⟩
abbrev cX3_lackOf : ByteArray := prog_5_method_24_code
def yX3_lackOf : MethodName := ⟨RX3, "lackOf", "(II)I"⟩
abbrev cX3_recognizes : ByteArray := prog_5_method_25_code
def yX3_recognizes : MethodName := ⟨RX3, "recognizes", "(I)Z"⟩
def RX4 : String := "CommonUnits$Sightings"
def TX4 : u_T := fun k => match k with
  | 0 => ("CommonUnits$Sightings", "coins", "[I", true)
  | 1 => ("CommonUnits$Sightings", "fitting", "[Z", true)
  | _ => ("CommonUnits$Sightings", "size", "I", false)
def tyX4 : Nat → FieldType := fun k => match k with
  | 0 => .array .int
  | 1 => .array .boolean
  | _ => .int
abbrev wsX40 : List Cond := u_ws RX4 TX4 3
theorem nmX4 : ∀ a, a < 3 → ∀ b, b < 3 → a ≠ b → (TX4 a).2.1 ≠ (TX4 b).2.1 := by decide +kernel
theorem tyX4_ok : ∀ k, k < 3 → parseFieldDescriptor (TX4 k).2.2.1 = some (tyX4 k) := by decide +kernel
abbrev cX4_init : ByteArray := prog_6_method_1_code
def yX4_init : MethodName := ⟨RX4, "<init>", "()V"⟩
abbrev cX4_add : ByteArray := prog_6_method_2_code
def yX4_add : MethodName := ⟨RX4, "add", "(II)I"⟩
abbrev cX4_agreeWith : ByteArray := prog_6_method_3_code
def yX4_agreeWith : MethodName := ⟨RX4, "agreeWith", "(LCommonUnits$Hoard;I)Z"⟩
def RX5 : String := "CommonUnits$Steps"
def TX5 : u_T := fun k => match k with
  | _ => ("", "", "", false)
def tyX5 : Nat → FieldType := fun k => match k with
  | _ => .int
abbrev wsX50 : List Cond := u_ws RX5 TX5 0
theorem nmX5 : ∀ a, a < 0 → ∀ b, b < 0 → a ≠ b → (TX5 a).2.1 ≠ (TX5 b).2.1 := by decide +kernel
theorem tyX5_ok : ∀ k, k < 0 → parseFieldDescriptor (TX5 k).2.2.1 = some (tyX5 k) := by decide +kernel
abbrev cX5_holds : ByteArray := prog_7_method_2_code
def yX5_holds : MethodName := ⟨RX5, "holds", "(LCommonUnits$Hoard;I)Z"⟩
abbrev cX5_turns : ByteArray := prog_7_method_3_code
def yX5_turns : MethodName := ⟨RX5, "turns", "(LCommonUnits$Hoard;I)Z"⟩
abbrev cX5_isOf : ByteArray := prog_7_method_4_code
def yX5_isOf : MethodName := ⟨RX5, "isOf", "(LCommonUnits$Hoard;II)Z"⟩
def RX6 : String := "CommonUnits$Survey"
def TX6 : u_T := fun k => match k with
  | 0 => ("CommonUnits$Survey", "weights", "[I", true)
  | 1 => ("CommonUnits$Survey", "wears", "[I", true)
  | 2 => ("CommonUnits$Survey", "lacks", "[I", true)
  | 3 => ("CommonUnits$Survey", "sums", "[I", true)
  | 4 => ("CommonUnits$Survey", "order", "[I", true)
  | 5 => ("CommonUnits$Survey", "version", "I", false)
  | 6 => ("CommonUnits$Survey", "sortedVersion", "I", false)
  | 7 => ("CommonUnits$Survey", "pairVersion", "I", false)
  | 8 => ("CommonUnits$Survey", "lower", "I", false)
  | 9 => ("CommonUnits$Survey", "upper", "I", false)
  | _ => ("CommonUnits$Survey", "pairLack", "I", false)
def tyX6 : Nat → FieldType := fun k => match k with
  | 0 => .array .int
  | 1 => .array .int
  | 2 => .array .int
  | 3 => .array .int
  | 4 => .array .int
  | 5 => .int
  | 6 => .int
  | 7 => .int
  | 8 => .int
  | 9 => .int
  | _ => .int
abbrev wsX60 : List Cond := u_ws RX6 TX6 11
theorem nmX6 : ∀ a, a < 11 → ∀ b, b < 11 → a ≠ b → (TX6 a).2.1 ≠ (TX6 b).2.1 := by decide +kernel
theorem tyX6_ok : ∀ k, k < 11 → parseFieldDescriptor (TX6 k).2.2.1 = some (tyX6 k) := by decide +kernel
abbrev cX6_init : ByteArray := prog_8_method_1_code
def yX6_init : MethodName := ⟨RX6, "<init>", "()V"⟩
abbrev cX6_look : ByteArray := prog_8_method_2_code
def yX6_look : MethodName := ⟨RX6, "look", "(LCommonUnits$Hoard;)V"⟩
abbrev cX6_fillColumn : ByteArray := prog_8_method_3_code
def yX6_fillColumn : MethodName := ⟨RX6, "fillColumn", "(III)V"⟩
abbrev cX6_rankOf : ByteArray := prog_8_method_4_code
def yX6_rankOf : MethodName := ⟨RX6, "rankOf", "(I)I"⟩
abbrev cX6_keyOf : ByteArray := prog_8_method_5_code
def yX6_keyOf : MethodName := ⟨RX6, "keyOf", "(I)I"⟩
abbrev cX6_unitOfRank : ByteArray := prog_8_method_6_code
def yX6_unitOfRank : MethodName := ⟨RX6, "unitOfRank", "(I)I"⟩
abbrev cX6_sort : ByteArray := prog_8_method_7_code
def yX6_sort : MethodName := ⟨RX6, "sort", "()V"⟩
abbrev cX6_findPair : ByteArray := prog_8_method_8_code
def yX6_findPair : MethodName := ⟨RX6, "findPair", "()V"⟩
abbrev cX6_findUpper : ByteArray := prog_8_method_9_code
def yX6_findUpper : MethodName := ⟨RX6, "findUpper", "(II)V"⟩
abbrev cX6_bestUnit : ByteArray := prog_8_method_10_code
def yX6_bestUnit : MethodName := ⟨RX6, "bestUnit", "()I"⟩
abbrev cX6_leastWith : ByteArray := prog_8_method_11_code
def yX6_leastWith : MethodName := ⟨RX6, "leastWith", "(I)I"⟩
abbrev cX6_jointLack : ByteArray := prog_8_method_12_code
def yX6_jointLack : MethodName := ⟨RX6, "jointLack", "(IIII)I"⟩
abbrev cX6_countedColumns : ByteArray := prog_8_method_13_code
def yX6_countedColumns : MethodName := ⟨RX6, "countedColumns", "()I"⟩
abbrev cX6_width : ByteArray := prog_8_method_14_code
def yX6_width : MethodName := ⟨RX6, "width", "()I"⟩
abbrev cX6_placesBy : ByteArray := prog_8_method_15_code
def yX6_placesBy : MethodName := ⟨RX6, "placesBy", "(I)I"⟩
def RX7 : String := "CommonUnits$Text"
def TX7 : u_T := fun k => match k with
  | 0 => ("CommonUnits$Text", "signs", "[I", true)
  | _ => ("CommonUnits$Text", "length", "I", false)
def tyX7 : Nat → FieldType := fun k => match k with
  | 0 => .array .int
  | _ => .int
abbrev wsX70 : List Cond := u_ws RX7 TX7 2
theorem nmX7 : ∀ a, a < 2 → ∀ b, b < 2 → a ≠ b → (TX7 a).2.1 ≠ (TX7 b).2.1 := by decide +kernel
theorem tyX7_ok : ∀ k, k < 2 → parseFieldDescriptor (TX7 k).2.2.1 = some (tyX7 k) := by decide +kernel
abbrev cX7_init : ByteArray := prog_9_method_1_code
def yX7_init : MethodName := ⟨RX7, "<init>", "()V"⟩
abbrev cX7_append : ByteArray := prog_9_method_2_code
def yX7_append : MethodName := ⟨RX7, "append", "(I)I"⟩
abbrev cX7_readInto : ByteArray := prog_9_method_3_code
def yX7_readInto : MethodName := ⟨RX7, "readInto", "(LCommonUnits$Hoard;)I"⟩
abbrev cX7_readPart : ByteArray := prog_9_method_4_code
def yX7_readPart : MethodName := ⟨RX7, "readPart", "(ILCommonUnits$Hoard;)I"⟩
abbrev cX7_numberFault : ByteArray := prog_9_method_5_code
def yX7_numberFault : MethodName := ⟨RX7, "numberFault", "(I)I"⟩
abbrev cX7_numberAt : ByteArray := prog_9_method_6_code
def yX7_numberAt : MethodName := ⟨RX7, "numberAt", "(I)I"⟩
abbrev cX7_digitAt : ByteArray := prog_9_method_7_code
def yX7_digitAt : MethodName := ⟨RX7, "digitAt", "(I)I"⟩
abbrev cX7_signAt : ByteArray := prog_9_method_8_code
def yX7_signAt : MethodName := ⟨RX7, "signAt", "(I)I"⟩
def RX8 : String := "CommonUnits"
def TX8 : u_T := fun k => match k with
  | 0 => ("CommonUnits", "text", "LCommonUnits$Text;", true)
  | 1 => ("CommonUnits", "now", "LCommonUnits$Hoard;", true)
  | 2 => ("CommonUnits", "spare", "LCommonUnits$Hoard;", true)
  | 3 => ("CommonUnits", "acts", "LCommonUnits$Acts;", true)
  | 4 => ("CommonUnits", "crowd", "LCommonUnits$Crowd;", true)
  | 5 => ("CommonUnits", "sightings", "LCommonUnits$Sightings;", true)
  | 6 => ("CommonUnits", "slots", "[LCommonUnits$Hoard;", true)
  | 7 => ("CommonUnits", "filled", "[Z", true)
  | 8 => ("CommonUnits", "survey", "LCommonUnits$Survey;", false)
  | _ => ("CommonUnits", "state", "J", false)
def tyX8 : Nat → FieldType := fun k => match k with
  | 0 => .object "CommonUnits$Text"
  | 1 => .object "CommonUnits$Hoard"
  | 2 => .object "CommonUnits$Hoard"
  | 3 => .object "CommonUnits$Acts"
  | 4 => .object "CommonUnits$Crowd"
  | 5 => .object "CommonUnits$Sightings"
  | 6 => .array (.object "CommonUnits$Hoard")
  | 7 => .array .boolean
  | 8 => .object "CommonUnits$Survey"
  | _ => .long
abbrev wsX80 : List Cond := u_ws RX8 TX8 10
theorem nmX8 : ∀ a, a < 10 → ∀ b, b < 10 → a ≠ b → (TX8 a).2.1 ≠ (TX8 b).2.1 := by decide +kernel
theorem tyX8_ok : ∀ k, k < 10 → parseFieldDescriptor (TX8 k).2.2.1 = some (tyX8 k) := by decide +kernel
abbrev cX8_init : ByteArray := prog_1_method_1_code
def yX8_init : MethodName := ⟨RX8, "<init>", "()V"⟩
abbrev cX8_write : ByteArray := prog_1_method_2_code
def yX8_write : MethodName := ⟨RX8, "write", "(I)I"⟩
abbrev cX8_wipe : ByteArray := prog_1_method_3_code
def yX8_wipe : MethodName := ⟨RX8, "wipe", "()I"⟩
abbrev cX8_fault : ByteArray := prog_1_method_4_code
def yX8_fault : MethodName := ⟨RX8, "fault", "()I"⟩
abbrev cX8_hoard : ByteArray := prog_1_method_5_code
def yX8_hoard : MethodName := ⟨RX8, "hoard", "()I"⟩
abbrev cX8_coin : ByteArray := prog_1_method_6_code
def yX8_coin : MethodName := ⟨RX8, "coin", "(II)I"⟩
abbrev cX8_mint : ByteArray := prog_1_method_7_code
def yX8_mint : MethodName := ⟨RX8, "mint", "(II)I"⟩
abbrev cX8_clean : ByteArray := prog_1_method_8_code
def yX8_clean : MethodName := ⟨RX8, "clean", "(II)I"⟩
abbrev cX8_date : ByteArray := prog_1_method_9_code
def yX8_date : MethodName := ⟨RX8, "date", "(II)I"⟩
abbrev cX8_aside : ByteArray := prog_1_method_10_code
def yX8_aside : MethodName := ⟨RX8, "aside", "(I)I"⟩
abbrev cX8_strike : ByteArray := prog_1_method_11_code
def yX8_strike : MethodName := ⟨RX8, "strike", "(II)I"⟩
abbrev cX8_setRate : ByteArray := prog_1_method_12_code
def yX8_setRate : MethodName := ⟨RX8, "setRate", "(I)I"⟩
abbrev cX8_setLaw : ByteArray := prog_1_method_13_code
def yX8_setLaw : MethodName := ⟨RX8, "setLaw", "(I)I"⟩
abbrev cX8_undo : ByteArray := prog_1_method_14_code
def yX8_undo : MethodName := ⟨RX8, "undo", "()I"⟩
abbrev cX8_act : ByteArray := prog_1_method_15_code
def yX8_act : MethodName := ⟨RX8, "act", "(III)I"⟩
abbrev cX8_fits : ByteArray := prog_1_method_16_code
def yX8_fits : MethodName := ⟨RX8, "fits", "(III)I"⟩
abbrev cX8_chain : ByteArray := prog_1_method_17_code
def yX8_chain : MethodName := ⟨RX8, "chain", "(II)I"⟩
abbrev cX8_unit : ByteArray := prog_1_method_18_code
def yX8_unit : MethodName := ⟨RX8, "unit", "(II)I"⟩
abbrev cX8_ranked : ByteArray := prog_1_method_19_code
def yX8_ranked : MethodName := ⟨RX8, "ranked", "(I)I"⟩
abbrev cX8_pair : ByteArray := prog_1_method_20_code
def yX8_pair : MethodName := ⟨RX8, "pair", "(I)I"⟩
abbrev cX8_surveyNow : ByteArray := prog_1_method_21_code
def yX8_surveyNow : MethodName := ⟨RX8, "surveyNow", "()LCommonUnits$Survey;"⟩
abbrev cX8_judge : ByteArray := prog_1_method_22_code
def yX8_judge : MethodName := ⟨RX8, "judge", "(IJ)I"⟩
abbrev cX8_see : ByteArray := prog_1_method_23_code
def yX8_see : MethodName := ⟨RX8, "see", "(II)I"⟩
abbrev cX8_unsee : ByteArray := prog_1_method_24_code
def yX8_unsee : MethodName := ⟨RX8, "unsee", "()I"⟩
abbrev cX8_which : ByteArray := prog_1_method_25_code
def yX8_which : MethodName := ⟨RX8, "which", "(I)I"⟩
abbrev cX8_share : ByteArray := prog_1_method_26_code
def yX8_share : MethodName := ⟨RX8, "share", "(IZ)I"⟩
abbrev cX8_lost : ByteArray := prog_1_method_27_code
def yX8_lost : MethodName := ⟨RX8, "lost", "(IZ)I"⟩
abbrev cX8_seed : ByteArray := prog_1_method_28_code
def yX8_seed : MethodName := ⟨RX8, "seed", "(J)J"⟩
abbrev cX8_drawn : ByteArray := prog_1_method_29_code
def yX8_drawn : MethodName := ⟨RX8, "drawn", "(I)I"⟩
abbrev cX8_keep : ByteArray := prog_1_method_30_code
def yX8_keep : MethodName := ⟨RX8, "keep", "(I)I"⟩
abbrev cX8_again : ByteArray := prog_1_method_31_code
def yX8_again : MethodName := ⟨RX8, "again", "(I)I"⟩
abbrev cX8_count : ByteArray := prog_1_method_32_code
def yX8_count : MethodName := ⟨RX8, "count", "(I)I"⟩
def RX9 : String := "CommonUnitsModel"
def TX9 : u_T := fun k => match k with
  | 0 => ("CommonUnitsModel", "thrown", "I", false)
  | 1 => ("CommonUnitsModel", "text", "[I", true)
  | 2 => ("CommonUnitsModel", "textSize", "I", false)
  | 3 => ("CommonUnitsModel", "coins", "I", false)
  | 4 => ("CommonUnitsModel", "mints", "I", false)
  | 5 => ("CommonUnitsModel", "readCoins", "I", false)
  | 6 => ("CommonUnitsModel", "readMints", "I", false)
  | 7 => ("CommonUnitsModel", "readPage", "[I", true)
  | 8 => ("CommonUnitsModel", "page", "[I", true)
  | 9 => ("CommonUnitsModel", "trial", "[I", true)
  | 10 => ("CommonUnitsModel", "book", "[I", true)
  | 11 => ("CommonUnitsModel", "doings", "I", false)
  | 12 => ("CommonUnitsModel", "kept", "[I", true)
  | 13 => ("CommonUnitsModel", "isKept", "[Z", true)
  | 14 => ("CommonUnitsModel", "seen", "I", false)
  | 15 => ("CommonUnitsModel", "seenCoin", "[I", true)
  | 16 => ("CommonUnitsModel", "seenIs", "[I", true)
  | 17 => ("CommonUnitsModel", "seed", "J", false)
  | 18 => ("CommonUnitsModel", "fitting", "[I", true)
  | 19 => ("CommonUnitsModel", "losing", "[I", true)
  | 20 => ("CommonUnitsModel", "order", "[I", true)
  | 21 => ("CommonUnitsModel", "pairU", "I", false)
  | 22 => ("CommonUnitsModel", "pairV", "I", false)
  | 23 => ("CommonUnitsModel", "pairMany", "I", false)
  | 24 => ("CommonUnitsModel", "pairLoss", "I", false)
  | 25 => ("CommonUnitsModel", "free", "[I", true)
  | 26 => ("CommonUnitsModel", "freeMany", "I", false)
  | _ => ("CommonUnitsModel", "worth", "[I", true)
def tyX9 : Nat → FieldType := fun k => match k with
  | 0 => .int
  | 1 => .array .int
  | 2 => .int
  | 3 => .int
  | 4 => .int
  | 5 => .int
  | 6 => .int
  | 7 => .array .int
  | 8 => .array .int
  | 9 => .array .int
  | 10 => .array .int
  | 11 => .int
  | 12 => .array .int
  | 13 => .array .boolean
  | 14 => .int
  | 15 => .array .int
  | 16 => .array .int
  | 17 => .long
  | 18 => .array .int
  | 19 => .array .int
  | 20 => .array .int
  | 21 => .int
  | 22 => .int
  | 23 => .int
  | 24 => .int
  | 25 => .array .int
  | 26 => .int
  | _ => .array .int
abbrev wsX90 : List Cond := u_ws RX9 TX9 28
theorem nmX9 : ∀ a, a < 28 → ∀ b, b < 28 → a ≠ b → (TX9 a).2.1 ≠ (TX9 b).2.1 := by decide +kernel
theorem tyX9_ok : ∀ k, k < 28 → parseFieldDescriptor (TX9 k).2.2.1 = some (tyX9 k) := by decide +kernel
abbrev cX9_init : ByteArray := prog_11_method_1_code
def yX9_init : MethodName := ⟨RX9, "<init>", "()V"⟩
abbrev cX9_in : ByteArray := prog_11_method_3_code
def yX9_in : MethodName := ⟨RX9, "in", "(JJJ)Z"⟩
abbrev cX9_has : ByteArray := prog_11_method_4_code
def yX9_has : MethodName := ⟨RX9, "has", "(II)Z"⟩
abbrev cX9_ones : ByteArray := prog_11_method_5_code
def yX9_ones : MethodName := ⟨RX9, "ones", "(I)I"⟩
abbrev cX9_power : ByteArray := prog_11_method_6_code
def yX9_power : MethodName := ⟨RX9, "power", "(II)I"⟩
abbrev cX9_noCoin : ByteArray := prog_11_method_7_code
def yX9_noCoin : MethodName := ⟨RX9, "noCoin", "(I)Z"⟩
abbrev cX9_noMint : ByteArray := prog_11_method_8_code
def yX9_noMint : MethodName := ⟨RX9, "noMint", "(I)Z"⟩
abbrev cX9_lay : ByteArray := prog_11_method_9_code
def yX9_lay : MethodName := ⟨RX9, "lay", "([I[I)V"⟩
abbrev cX9_write : ByteArray := prog_11_method_10_code
def yX9_write : MethodName := ⟨RX9, "write", "(I)I"⟩
abbrev cX9_wipe : ByteArray := prog_11_method_11_code
def yX9_wipe : MethodName := ⟨RX9, "wipe", "()I"⟩
abbrev cX9_isFigure : ByteArray := prog_11_method_12_code
def yX9_isFigure : MethodName := ⟨RX9, "isFigure", "(III)Z"⟩
abbrev cX9_canStand : ByteArray := prog_11_method_13_code
def yX9_canStand : MethodName := ⟨RX9, "canStand", "(III)Z"⟩
abbrev cX9_three : ByteArray := prog_11_method_14_code
def yX9_three : MethodName := ⟨RX9, "three", "(I)I"⟩
abbrev cX9_readHoard : ByteArray := prog_11_method_15_code
def yX9_readHoard : MethodName := ⟨RX9, "readHoard", "()I"⟩
abbrev cX9_fault : ByteArray := prog_11_method_16_code
def yX9_fault : MethodName := ⟨RX9, "fault", "()I"⟩
abbrev cX9_hoard : ByteArray := prog_11_method_17_code
def yX9_hoard : MethodName := ⟨RX9, "hoard", "()I"⟩
abbrev cX9_mostOf : ByteArray := prog_11_method_18_code
def yX9_mostOf : MethodName := ⟨RX9, "mostOf", "([II)I"⟩
abbrev cX9_timesOf : ByteArray := prog_11_method_19_code
def yX9_timesOf : MethodName := ⟨RX9, "timesOf", "(III)I"⟩
abbrev cX9_times : ByteArray := prog_11_method_20_code
def yX9_times : MethodName := ⟨RX9, "times", "([III)I"⟩
abbrev cX9_reason : ByteArray := prog_11_method_21_code
def yX9_reason : MethodName := ⟨RX9, "reason", "([III)I"⟩
abbrev cX9_excess : ByteArray := prog_11_method_22_code
def yX9_excess : MethodName := ⟨RX9, "excess", "([III)I"⟩
abbrev cX9_mintOf : ByteArray := prog_11_method_23_code
def yX9_mintOf : MethodName := ⟨RX9, "mintOf", "([III)I"⟩
abbrev cX9_ofMint : ByteArray := prog_11_method_24_code
def yX9_ofMint : MethodName := ⟨RX9, "ofMint", "([II)I"⟩
abbrev cX9_manyMints : ByteArray := prog_11_method_25_code
def yX9_manyMints : MethodName := ⟨RX9, "manyMints", "([II)I"⟩
abbrev cX9_coin : ByteArray := prog_11_method_26_code
def yX9_coin : MethodName := ⟨RX9, "coin", "(II)I"⟩
abbrev cX9_mint : ByteArray := prog_11_method_27_code
def yX9_mint : MethodName := ⟨RX9, "mint", "(II)I"⟩
abbrev cX9_change : ByteArray := prog_11_method_28_code
def yX9_change : MethodName := ⟨RX9, "change", "(II)I"⟩
abbrev cX9_note : ByteArray := prog_11_method_29_code
def yX9_note : MethodName := ⟨RX9, "note", "()V"⟩
abbrev cX9_clean : ByteArray := prog_11_method_30_code
def yX9_clean : MethodName := ⟨RX9, "clean", "(II)I"⟩
abbrev cX9_date : ByteArray := prog_11_method_31_code
def yX9_date : MethodName := ⟨RX9, "date", "(II)I"⟩
abbrev cX9_aside : ByteArray := prog_11_method_32_code
def yX9_aside : MethodName := ⟨RX9, "aside", "(I)I"⟩
abbrev cX9_strike : ByteArray := prog_11_method_33_code
def yX9_strike : MethodName := ⟨RX9, "strike", "(II)I"⟩
abbrev cX9_setRate : ByteArray := prog_11_method_34_code
def yX9_setRate : MethodName := ⟨RX9, "setRate", "(I)I"⟩
abbrev cX9_setLaw : ByteArray := prog_11_method_35_code
def yX9_setLaw : MethodName := ⟨RX9, "setLaw", "(I)I"⟩
abbrev cX9_undo : ByteArray := prog_11_method_36_code
def yX9_undo : MethodName := ⟨RX9, "undo", "()I"⟩
abbrev cX9_fits : ByteArray := prog_11_method_37_code
def yX9_fits : MethodName := ⟨RX9, "fits", "(III)I"⟩
abbrev cX9_chain : ByteArray := prog_11_method_38_code
def yX9_chain : MethodName := ⟨RX9, "chain", "(II)I"⟩
abbrev cX9_layFitting : ByteArray := prog_11_method_39_code
def yX9_layFitting : MethodName := ⟨RX9, "layFitting", "([I)V"⟩
abbrev cX9_lossOf : ByteArray := prog_11_method_40_code
def yX9_lossOf : MethodName := ⟨RX9, "lossOf", "(II)I"⟩
abbrev cX9_open : ByteArray := prog_11_method_41_code
def yX9_open : MethodName := ⟨RX9, "open", "([I)I"⟩
abbrev cX9_keyOf : ByteArray := prog_11_method_42_code
def yX9_keyOf : MethodName := ⟨RX9, "keyOf", "([II)I"⟩
abbrev cX9_rankOf : ByteArray := prog_11_method_43_code
def yX9_rankOf : MethodName := ⟨RX9, "rankOf", "([II)I"⟩
abbrev cX9_firstUnit : ByteArray := prog_11_method_44_code
def yX9_firstUnit : MethodName := ⟨RX9, "firstUnit", "([I)I"⟩
abbrev cX9_unit : ByteArray := prog_11_method_45_code
def yX9_unit : MethodName := ⟨RX9, "unit", "(II)I"⟩
abbrev cX9_ranked : ByteArray := prog_11_method_46_code
def yX9_ranked : MethodName := ⟨RX9, "ranked", "(I)I"⟩
abbrev cX9_lossOfPair : ByteArray := prog_11_method_47_code
def yX9_lossOfPair : MethodName := ⟨RX9, "lossOfPair", "(III)I"⟩
abbrev cX9_layPair : ByteArray := prog_11_method_48_code
def yX9_layPair : MethodName := ⟨RX9, "layPair", "([I)V"⟩
abbrev cX9_pair : ByteArray := prog_11_method_49_code
def yX9_pair : MethodName := ⟨RX9, "pair", "(I)I"⟩
abbrev cX9_longPower : ByteArray := prog_11_method_50_code
def yX9_longPower : MethodName := ⟨RX9, "longPower", "(JI)J"⟩
abbrev cX9_does : ByteArray := prog_11_method_51_code
def yX9_does : MethodName := ⟨RX9, "does", "(I)Z"⟩
abbrev cX9_judge : ByteArray := prog_11_method_52_code
def yX9_judge : MethodName := ⟨RX9, "judge", "(IJ)I"⟩
abbrev cX9_see : ByteArray := prog_11_method_53_code
def yX9_see : MethodName := ⟨RX9, "see", "(II)I"⟩
abbrev cX9_unsee : ByteArray := prog_11_method_54_code
def yX9_unsee : MethodName := ⟨RX9, "unsee", "()I"⟩
abbrev cX9_which : ByteArray := prog_11_method_55_code
def yX9_which : MethodName := ⟨RX9, "which", "(I)I"⟩
abbrev cX9_divisor : ByteArray := prog_11_method_56_code
def yX9_divisor : MethodName := ⟨RX9, "divisor", "(II)I"⟩
abbrev cX9_fraction : ByteArray := prog_11_method_57_code
def yX9_fraction : MethodName := ⟨RX9, "fraction", "(IIZ)I"⟩
abbrev cX9_factorial : ByteArray := prog_11_method_58_code
def yX9_factorial : MethodName := ⟨RX9, "factorial", "(I)I"⟩
abbrev cX9_weigh : ByteArray := prog_11_method_59_code
def yX9_weigh : MethodName := ⟨RX9, "weigh", "()V"⟩
abbrev cX9_share : ByteArray := prog_11_method_60_code
def yX9_share : MethodName := ⟨RX9, "share", "(IZ)I"⟩
abbrev cX9_lost : ByteArray := prog_11_method_61_code
def yX9_lost : MethodName := ⟨RX9, "lost", "(IZ)I"⟩
abbrev cX9_seed : ByteArray := prog_11_method_62_code
def yX9_seed : MethodName := ⟨RX9, "seed", "(J)J"⟩
abbrev cX9_drawn : ByteArray := prog_11_method_63_code
def yX9_drawn : MethodName := ⟨RX9, "drawn", "(I)I"⟩
abbrev cX9_keep : ByteArray := prog_11_method_64_code
def yX9_keep : MethodName := ⟨RX9, "keep", "(I)I"⟩
abbrev cX9_again : ByteArray := prog_11_method_65_code
def yX9_again : MethodName := ⟨RX9, "again", "(I)I"⟩
abbrev cX9_falseOnes : ByteArray := prog_11_method_66_code
def yX9_falseOnes : MethodName := ⟨RX9, "falseOnes", "()I"⟩
abbrev cX9_count : ByteArray := prog_11_method_67_code
def yX9_count : MethodName := ⟨RX9, "count", "(I)I"⟩
def RJ6 : String := "java/lang/Integer"
def TJ6 : u_T := fun k => match k with
  | _ => ("", "", "", false)
def tyJ6 : Nat → FieldType := fun k => match k with
  | _ => .int
abbrev wsJ60 : List Cond := u_ws RJ6 TJ6 0
theorem nmJ6 : ∀ a, a < 0 → ∀ b, b < 0 → a ≠ b → (TJ6 a).2.1 ≠ (TJ6 b).2.1 := by decide +kernel
theorem tyJ6_ok : ∀ k, k < 0 → parseFieldDescriptor (TJ6 k).2.2.1 = some (tyJ6 k) := by decide +kernel
abbrev cJ6_bitCount_0f7a4 : ByteArray := prog_12_method_49_code
def yJ6_bitCount_0f7a4 : MethodName := ⟨RJ6, "bitCount", "(I)I"⟩
def RJ9 : String := "java/lang/Math"
def TJ9 : u_T := fun k => match k with
  | _ => ("", "", "", false)
def tyJ9 : Nat → FieldType := fun k => match k with
  | _ => .int
abbrev wsJ90 : List Cond := u_ws RJ9 TJ9 0
theorem nmJ9 : ∀ a, a < 0 → ∀ b, b < 0 → a ≠ b → (TJ9 a).2.1 ≠ (TJ9 b).2.1 := by decide +kernel
theorem tyJ9_ok : ∀ k, k < 0 → parseFieldDescriptor (TJ9 k).2.2.1 = some (tyJ9 k) := by decide +kernel
abbrev cJ9_max_7cf53 : ByteArray := prog_13_method_65_code
def yJ9_max_7cf53 : MethodName := ⟨RJ9, "max", "(II)I"⟩
abbrev cJ9_max_f86c9 : ByteArray := prog_13_method_66_code
def yJ9_max_f86c9 : MethodName := ⟨RJ9, "max", "(JJ)J"⟩
abbrev cJ9_min_7cf53 : ByteArray := prog_13_method_69_code
def yJ9_min_7cf53 : MethodName := ⟨RJ9, "min", "(II)I"⟩
def RL : String := "CommonUnitsLaw"
abbrev cL_law : ByteArray := code
def yL_law : MethodName := ⟨RL, "law", "([I)Z"⟩
abbrev vwCl : List vw_C := [(RX0, TX0, 5), (RX1, TX1, 3), (RX3, TX3, 8), (RX4, TX4, 3), (RX6, TX6, 11), (RX7, TX7, 2), (RX8, TX8, 10), (RX9, TX9, 28)]
/-- the words of the tables that go with every contract -/
def cu_G : List Cond := lw_tbl.filter goodWord
theorem cu_mem {w : Cond} (i : Nat) (h : lw_tbl[i]? = some w) (hg : goodWord w = true) : w ∈ cu_G := List.mem_filter.mpr ⟨List.mem_of_getElem? h, hg⟩
theorem cu_sub {ws : List Cond} (ps : List Nat) (hp : ws = ps.filterMap (fun i => lw_tbl[i]?)) (h : ws.all goodWord = true) : ∀ w ∈ ws, w ∈ cu_G := fun w hw => by
  have h1 := List.all_eq_true.mp h w hw
  rw [hp] at hw
  obtain ⟨i, -, hi⟩ := List.mem_filterMap.mp hw
  exact cu_mem i hi h1
theorem cu_in {c : Cond} (h : c ∈ cu_G) : GoodIn cu_G (c :: cu_G) := fun w hw => by
  have hm : w ∈ cu_G := by
    rcases List.mem_cons.mp hw with rfl | h2
    · exact h
    · exact h2
  exact ⟨hm, good_of_word (List.mem_filter.mp hm).2⟩
theorem cu_iX0 : ∀ w ∈ wsX00, w ∈ cu_G := cu_sub [133, 135, 137, 139, 141] (by decide +kernel) (by decide +kernel)
theorem cu_iX1 : ∀ w ∈ wsX10, w ∈ cu_G := cu_sub [153, 155, 157] (by decide +kernel) (by decide +kernel)
theorem cu_iX3 : ∀ w ∈ wsX30, w ∈ cu_G := cu_sub [104, 106, 108, 110, 112, 114, 116, 118] (by decide +kernel) (by decide +kernel)
theorem cu_iX4 : ∀ w ∈ wsX40, w ∈ cu_G := cu_sub [170, 172, 174] (by decide +kernel) (by decide +kernel)
theorem cu_iX6 : ∀ w ∈ wsX60, w ∈ cu_G := cu_sub [446, 448, 450, 452, 454, 456, 458, 460, 462, 464, 466] (by decide +kernel) (by decide +kernel)
theorem cu_iX7 : ∀ w ∈ wsX70, w ∈ cu_G := cu_sub [72, 74] (by decide +kernel) (by decide +kernel)
theorem cu_iX8 : ∀ w ∈ wsX80, w ∈ cu_G := cu_sub [189, 191, 193, 195, 197, 199, 201, 203, 205, 207] (by decide +kernel) (by decide +kernel)
theorem cu_iX9 : ∀ w ∈ wsX90, w ∈ cu_G := cu_sub [712, 714, 716, 718, 720, 722, 724, 726, 728, 730, 732, 734, 736, 738, 740, 742, 744, 746, 748, 750, 752, 754, 756, 758, 760, 762, 764, 766] (by decide +kernel) (by decide +kernel)
end
section
-- the one word list for all contracts, and contracts in three kinds: reading only (cu_R), writing (cu_W, cu_V, cu_L, cu_Q)
theorem cu_fm {α β : Type} {f : α → Option β} {is : List α} {wc : List β} (h : is.map f = wc.map some) : is.filterMap f = wc := by
  have h1 := congrArg (List.filterMap id) h
  simpa [List.filterMap_map] using h1
abbrev cu_TY (cI cZ cQ : ClassId) : List (ClassId × FieldType) := [(cI, .int), (cZ, .boolean), (cQ, .object "CommonUnits$Hoard")]
def cu_N (U : State) : Prop := va_AO "CommonUnits$Hoard" U ∧ va_Nw (.methodLinkNest RX8 11 yX7_init RX8) U ∧ va_Nw (.methodLinkNest RX8 18 yX3_init RX8) U ∧ va_Nw (.methodLinkNest RX8 28 yX0_init RX8) U ∧ va_Nw (.methodLinkNest RX8 35 yX1_init RX8) U ∧ va_Nw (.methodLinkNest RX8 42 yX4_init RX8) U ∧ va_Nw (.methodLinkNest RX8 186 yX6_init RX8) U
def cu_K (D : va_G) (TY : List (ClassId × FieldType)) (U : State) : Prop := va_K D vwCl TY U ∧ cu_N U
theorem cu_K.warm {D : va_G} {TY : List (ClassId × FieldType)} {s U : State} (hW : s.WarmedH U.vm) (h : cu_K D TY s) : cu_K D TY U := by
  obtain ⟨h1, h2, a1, a2, a3, a4, a5, a6⟩ := h
  exact ⟨va_K.moved hW.alike h1, va_AO.moved hW.alike h2, a1.warmM hW, a2.warmM hW, a3.warmM hW, a4.warmM hW, a5.warmM hW, a6.warmM hW⟩
theorem cu_K.call {D : va_G} {TY : List (ClassId × FieldType)} {U : State} {g : JFrame} {mk : MethodId} {a : Array Value} (h : cu_K D TY U) : cu_K D TY (U.calling g mk a) := by
  obtain ⟨h1, h2, a1, a2, a3, a4, a5, a6⟩ := h
  exact ⟨va_K.moved (u := U) (U := U.calling g mk a) (Vm.Alike.refl U.vm) h1, va_AO.moved (u := U) (U := U.calling g mk a) (Vm.Alike.refl U.vm) h2, a1.same rfl rfl, a2.same rfl rfl, a3.same rfl rfl, a4.same rfl rfl, a5.same rfl rfl, a6.same rfl rfl⟩
abbrev cu_rm (fr lo mc ms : Nat) : Room := { frames := fr, cells := mc, slots := ms, locals := lo }
def cu_R (l : Launch) (D : va_G) (TY : List (ClassId × FieldType)) (y : MethodName) (cc : ByteArray) (mL : Nat) (rt : FieldType) (fr lo : Nat) (av : List Value) (ws : va_W) (post : Int32 → Prop) : Prop :=
  Met l y (Cond.code y cc mL (some rt) :: cu_G) (cu_rm fr lo 0 0) (va_Pc av (fun U => va_P D vwCl ws U.heap ∧ cu_K D TY U)) (vp_Si post) 0 0 (fun _ => False)
def cu_pre (D : va_G) (TY : List (ClassId × FieldType)) (ws : va_W) (sz : Nat) (U : State) : Prop := U.heap.size = sz ∧ va_P D vwCl ws U.heap ∧ cu_K D TY U ∧ va_D (fun _ => True) ws
def cu_B (D : va_G) (ws : va_W) (sz : Nat) (w : va_W) (t : State) : Prop := va_P D vwCl w t.heap ∧ va_D (va_A ws sz) w
def cu_W (l : Launch) (D : va_G) (TY : List (ClassId × FieldType)) (y : MethodName) (cc : ByteArray) (mL : Nat) (rt : FieldType) (fr lo mc ms : Nat) (av : List Value) (ws : va_W) (post : Int32 → va_W → Prop) : Prop :=
  ∀ sz : Nat, Met l y (Cond.code y cc mL (some rt) :: cu_G) (cu_rm fr lo mc ms) (va_Pc av (cu_pre D TY ws sz)) (va_Qi post (cu_B D ws sz) (va_A ws sz)) mc ms (va_A ws sz)
def cu_V (l : Launch) (D : va_G) (TY : List (ClassId × FieldType)) (y : MethodName) (cc : ByteArray) (mL : Nat) (fr lo mc ms : Nat) (av : List Value) (ws : va_W) (post : va_W → Prop) : Prop :=
  ∀ sz : Nat, Met l y (Cond.code y cc mL none :: cu_G) (cu_rm fr lo mc ms) (va_Pc av (cu_pre D TY ws sz)) (va_Qv post (cu_B D ws sz) (va_A ws sz)) mc ms (va_A ws sz)
def cu_L (l : Launch) (D : va_G) (TY : List (ClassId × FieldType)) (y : MethodName) (cc : ByteArray) (mL : Nat) (fr lo mc ms : Nat) (av : List Value) (ws : va_W) (post : Int64 → va_W → Prop) : Prop :=
  ∀ sz : Nat, Met l y (Cond.code y cc mL (some .long) :: cu_G) (cu_rm fr lo mc ms) (va_Pc av (cu_pre D TY ws sz)) (va_Ql post (cu_B D ws sz) (va_A ws sz)) mc ms (va_A ws sz)
def cu_Q (l : Launch) (D : va_G) (TY : List (ClassId × FieldType)) (y : MethodName) (cc : ByteArray) (mL : Nat) (rt : String) (fr lo mc ms : Nat) (av : List Value) (ws : va_W) (post : Nat × va_W → Prop) : Prop :=
  ∀ sz : Nat, Met l y (Cond.code y cc mL (some (.object rt)) :: cu_G) (cu_rm fr lo mc ms) (va_Pc av (cu_pre D TY ws sz)) (va_Qr post (fun u a t => u.1 = a ∧ cu_B D ws sz u.2 t) (va_A ws sz)) mc ms (va_A ws sz)
theorem cu_R.intro {l : Launch} {D : va_G} {TY : List (ClassId × FieldType)} {y : MethodName} {cc : ByteArray} {mL : Nat} {rt : FieldType} {fr lo : Nat} {av : List Value} {ws : va_W} {post : Int32 → Prop}
    (hy : plainName y.cls = true) (hlen : (lg_sl av).length ≤ mL)
    (body : ∀ (p : Program) (e : Env) (s : State) (m : MethodId) (args : Array Value) (below : List Frame) (meth : Method) (c : Code) (Q : State → Prop) (ls : Array Slot),
      CallFix p m c cc mL s args cu_G y.cls →
      (∀ (pc : Nat) (ls : Array Slot) (v : Int32), decode cc pc = .ok (.ireturn, 1) → narrow rt (.int v) = .int v → post v → W p l e (cu_rm fr lo 0 0) s m args below meth c s.heap [] 0 0 Q (F0 m pc ls [.int v])) →
      va_P D vwCl ws s.heap → cu_K D TY s → lv_has ls mL (lv_args 0 av) →
      W p l e (cu_rm fr lo 0 0) s m args below meth c s.heap [] 0 0 Q (F0 m 0 ls [])) : cu_R l D TY y cc mL rt fr lo av ws post := by
  refine Met.ofW (cc := cc) (maxL := mL) (ret := some rt) hy rfl ?_
  intro p e s m args below meth c s₁ B hml hv
  obtain ⟨rfl, hP, hK⟩ := hv
  have hts := atoms_spec (ws := Cond.code y cc mL (some rt) :: cu_G) B.pre
  have hown : s.vm.findClass y.cls = some m.cls := findClass_of_methodNamed B.named
  have hlocks := B.notSynchronized
  have hl := lv_entry av (n := mL) hlen
  rw [lg_entry_eq]
  exact body p e s m _ below meth c _ _ ⟨B.exec, B.bytes, hml, hown, fun w h => hts w (List.mem_cons_of_mem _ h)⟩
    (fun pc ls v hd hn hp => W.zret B.exec B.bytes B.returns hn (fun t ht hW => ⟨v, rfl, hp, ht⟩) (fun _ h => by cases h) hd) hP hK hl
theorem cu_W.intro {l : Launch} {D : va_G} {TY : List (ClassId × FieldType)} {y : MethodName} {cc : ByteArray} {mL : Nat} {rt : FieldType} {fr lo mc ms : Nat} {av : List Value} {ws : va_W} {post : Int32 → va_W → Prop}
    (hy : plainName y.cls = true) (hlen : (lg_sl av).length ≤ mL)
    (body : ∀ (p : Program) (e : Env) (s : State) (m : MethodId) (args : Array Value) (below : List Frame) (meth : Method) (c : Code) (Q : State → Prop) (ls : Array Slot) (A : Nat → Prop),
      CallFix p m c cc mL s args cu_G y.cls →
      (∀ (H : Heap) (locs : List Loc) (k n : Nat) (w : va_W) (pc : Nat) (ls : Array Slot) (v : Int32), va_P D vwCl w H → va_D A w → va_S A s.heap H locs → k ≤ mc → n ≤ ms → decode cc pc = .ok (.ireturn, 1) → narrow rt (.int v) = .int v → post v w → W p l e (cu_rm fr lo mc ms) s m args below meth c H locs k n Q (F0 m pc ls [.int v])) →
      va_P D vwCl ws s.heap → va_D A ws → va_S A s.heap s.heap [] → (∀ q : Nat, s.heap.size ≤ q → A q) → cu_K D TY s → lv_has ls mL (lv_args 0 av) →
      W p l e (cu_rm fr lo mc ms) s m args below meth c s.heap [] 0 0 Q (F0 m 0 ls [])) : cu_W l D TY y cc mL rt fr lo mc ms av ws post := by
  intro sz
  refine Met.ofW (cc := cc) (maxL := mL) (ret := some rt) hy rfl ?_
  intro p e s m args below meth c s₁ B hml hv
  obtain ⟨rfl, hsz, hP, hK, hD0⟩ := hv
  subst hsz
  have hts := atoms_spec (ws := Cond.code y cc mL (some rt) :: cu_G) B.pre
  have hown : s.vm.findClass y.cls = some m.cls := findClass_of_methodNamed B.named
  have hlocks := B.notSynchronized
  have hl := lv_entry av (n := mL) hlen
  rw [lg_entry_eq]
  exact body p e s m _ below meth c _ _ (va_A ws s.heap.size) ⟨B.exec, B.bytes, hml, hown, fun w h => hts w (List.mem_cons_of_mem _ h)⟩
    (fun H locs k n w pc ls v h1 h2 h3 hk hn hd hna hp => W.widen hk hn (W.zret B.exec B.bytes B.returns hna (fun t ht hW => ⟨⟨v, w, rfl, hp, by rw [ht]; exact h1, h2⟩, h3.F ht⟩) h3.2.2 hd)) hP hD0.self va_S.rf (fun q h => Or.inr h) hK hl
theorem cu_V.intro {l : Launch} {D : va_G} {TY : List (ClassId × FieldType)} {y : MethodName} {cc : ByteArray} {mL : Nat} {fr lo mc ms : Nat} {av : List Value} {ws : va_W} {post : va_W → Prop}
    (hy : plainName y.cls = true) (hlen : (lg_sl av).length ≤ mL)
    (body : ∀ (p : Program) (e : Env) (s : State) (m : MethodId) (args : Array Value) (below : List Frame) (meth : Method) (c : Code) (Q : State → Prop) (ls : Array Slot) (A : Nat → Prop),
      CallFix p m c cc mL s args cu_G y.cls → meth.name = y.name →
      (∀ (H : Heap) (locs : List Loc) (k n : Nat) (w : va_W) (pc : Nat) (ls : Array Slot), va_P D vwCl w H → va_D A w → va_S A s.heap H locs → k ≤ mc → n ≤ ms → decode cc pc = .ok (.return_, 1) → post w → W p l e (cu_rm fr lo mc ms) s m args below meth c H locs k n Q (F0 m pc ls [])) →
      va_P D vwCl ws s.heap → va_D A ws → va_S A s.heap s.heap [] → (∀ q : Nat, s.heap.size ≤ q → A q) → cu_K D TY s → lv_has ls mL (lv_args 0 av) →
      W p l e (cu_rm fr lo mc ms) s m args below meth c s.heap [] 0 0 Q (F0 m 0 ls [])) : cu_V l D TY y cc mL fr lo mc ms av ws post := by
  intro sz
  refine Met.ofW (cc := cc) (maxL := mL) (ret := none) hy rfl ?_
  intro p e s m args below meth c s₁ B hml hv
  obtain ⟨rfl, hsz, hP, hK, hD0⟩ := hv
  subst hsz
  have hts := atoms_spec (ws := Cond.code y cc mL none :: cu_G) B.pre
  have hown : s.vm.findClass y.cls = some m.cls := findClass_of_methodNamed B.named
  have hlocks := B.notSynchronized
  have hin : meth.name = y.name := (name_of_methodNamed B.named B.method).1
  have hl := lv_entry av (n := mL) hlen
  rw [lg_entry_eq]
  exact body p e s m _ below meth c _ _ (va_A ws s.heap.size) ⟨B.exec, B.bytes, hml, hown, fun w h => hts w (List.mem_cons_of_mem _ h)⟩ hin
    (fun H locs k n w pc ls h1 h2 h3 hk hn hd hp => W.widen hk hn (W.vret B.exec B.bytes B.returns (fun t ht hW => ⟨⟨w, rfl, hp, by rw [ht]; exact h1, h2⟩, h3.F ht⟩) h3.2.2 hd)) hP hD0.self va_S.rf (fun q h => Or.inr h) hK hl
theorem cu_L.intro {l : Launch} {D : va_G} {TY : List (ClassId × FieldType)} {y : MethodName} {cc : ByteArray} {mL : Nat} {fr lo mc ms : Nat} {av : List Value} {ws : va_W} {post : Int64 → va_W → Prop}
    (hy : plainName y.cls = true) (hlen : (lg_sl av).length ≤ mL)
    (body : ∀ (p : Program) (e : Env) (s : State) (m : MethodId) (args : Array Value) (below : List Frame) (meth : Method) (c : Code) (Q : State → Prop) (ls : Array Slot) (A : Nat → Prop),
      CallFix p m c cc mL s args cu_G y.cls →
      (∀ (H : Heap) (locs : List Loc) (k n : Nat) (w : va_W) (pc : Nat) (ls : Array Slot) (v : Int64), va_P D vwCl w H → va_D A w → va_S A s.heap H locs → k ≤ mc → n ≤ ms → decode cc pc = .ok (.lreturn, 1) → post v w → W p l e (cu_rm fr lo mc ms) s m args below meth c H locs k n Q (F0 m pc ls [.long v])) →
      va_P D vwCl ws s.heap → va_D A ws → va_S A s.heap s.heap [] → (∀ q : Nat, s.heap.size ≤ q → A q) → cu_K D TY s → lv_has ls mL (lv_args 0 av) →
      W p l e (cu_rm fr lo mc ms) s m args below meth c s.heap [] 0 0 Q (F0 m 0 ls [])) : cu_L l D TY y cc mL fr lo mc ms av ws post := by
  intro sz
  refine Met.ofW (cc := cc) (maxL := mL) (ret := some .long) hy rfl ?_
  intro p e s m args below meth c s₁ B hml hv
  obtain ⟨rfl, hsz, hP, hK, hD0⟩ := hv
  subst hsz
  have hts := atoms_spec (ws := Cond.code y cc mL (some .long) :: cu_G) B.pre
  have hown : s.vm.findClass y.cls = some m.cls := findClass_of_methodNamed B.named
  have hlocks := B.notSynchronized
  have hl := lv_entry av (n := mL) hlen
  rw [lg_entry_eq]
  exact body p e s m _ below meth c _ _ (va_A ws s.heap.size) ⟨B.exec, B.bytes, hml, hown, fun w h => hts w (List.mem_cons_of_mem _ h)⟩
    (fun H locs k n w pc ls v h1 h2 h3 hk hn hd hp => W.widen hk hn (W.lret B.exec B.bytes B.returns (fun t ht hW => ⟨⟨v, w, rfl, hp, by rw [ht]; exact h1, h2⟩, h3.F ht⟩) h3.2.2 hd)) hP hD0.self va_S.rf (fun q h => Or.inr h) hK hl
theorem cu_Q.intro {l : Launch} {D : va_G} {TY : List (ClassId × FieldType)} {y : MethodName} {cc : ByteArray} {mL : Nat} {rt : String} {fr lo mc ms : Nat} {av : List Value} {ws : va_W} {post : Nat × va_W → Prop}
    (hy : plainName y.cls = true) (hlen : (lg_sl av).length ≤ mL)
    (body : ∀ (p : Program) (e : Env) (s : State) (m : MethodId) (args : Array Value) (below : List Frame) (meth : Method) (c : Code) (Q : State → Prop) (ls : Array Slot) (A : Nat → Prop),
      CallFix p m c cc mL s args cu_G y.cls →
      (∀ (H : Heap) (locs : List Loc) (k n : Nat) (w : va_W) (pc : Nat) (ls : Array Slot) (v : Nat), va_P D vwCl w H → va_D A w → va_S A s.heap H locs → k ≤ mc → n ≤ ms → decode cc pc = .ok (.areturn, 1) → post (v, w) → W p l e (cu_rm fr lo mc ms) s m args below meth c H locs k n Q (F0 m pc ls [.ref v])) →
      va_P D vwCl ws s.heap → va_D A ws → va_S A s.heap s.heap [] → (∀ q : Nat, s.heap.size ≤ q → A q) → cu_K D TY s → lv_has ls mL (lv_args 0 av) →
      W p l e (cu_rm fr lo mc ms) s m args below meth c s.heap [] 0 0 Q (F0 m 0 ls [])) : cu_Q l D TY y cc mL rt fr lo mc ms av ws post := by
  intro sz
  refine Met.ofW (cc := cc) (maxL := mL) (ret := some (.object rt)) hy rfl ?_
  intro p e s m args below meth c s₁ B hml hv
  obtain ⟨rfl, hsz, hP, hK, hD0⟩ := hv
  subst hsz
  have hts := atoms_spec (ws := Cond.code y cc mL (some (.object rt)) :: cu_G) B.pre
  have hown : s.vm.findClass y.cls = some m.cls := findClass_of_methodNamed B.named
  have hlocks := B.notSynchronized
  have hl := lv_entry av (n := mL) hlen
  rw [lg_entry_eq]
  exact body p e s m _ below meth c _ _ (va_A ws s.heap.size) ⟨B.exec, B.bytes, hml, hown, fun w h => hts w (List.mem_cons_of_mem _ h)⟩
    (fun H locs k n w pc ls v h1 h2 h3 hk hn hd hp => W.widen hk hn (W.aret B.exec B.bytes B.returns (Or.inl ⟨_, rfl⟩) (Or.inr ⟨_, rfl⟩) (fun t ht hW => ⟨⟨(v, w), v, rfl, hp, rfl, by rw [ht]; exact h1, h2⟩, h3.F ht⟩) h3.2.2 hd)) hP hD0.self va_S.rf (fun q h => Or.inr h) hK hl

theorem cu_clamp {j : Nat} (h : j < 2 ^ 31) : (nI j).toNatClampNeg = j := by
  have h1 : (nI j).toNatClampNeg = (nI j).toInt.toNat := rfl
  rw [h1, nI_toInt h]; rfl
/-- between two ints, as numbers -/
theorem cu_le {a b : Int32} : a ≤ b ↔ a.toInt ≤ b.toInt := Int32.le_iff_toInt_le
theorem cu_lt {a b : Int32} : a < b ↔ a.toInt < b.toInt := Int32.lt_iff_toInt_lt
theorem cu_out9 {x : Int32} (h0 : ¬ x = 0) (h1 : ¬ x = 1) (h2 : ¬ x = 2) (h3 : ¬ x = 3) (h4 : ¬ x = 4) (h5 : ¬ x = 5) (h6 : ¬ x = 6) (h7 : ¬ x = 7) (h8 : ¬ x = 8) : x.toInt < 0 ∨ 8 < x.toInt := by
  have a0 := lv_neT (a := 0) h0 (by decide); have a1 := lv_neT (a := 1) h1 (by decide); have a2 := lv_neT (a := 2) h2 (by decide); have a3 := lv_neT (a := 3) h3 (by decide); have a4 := lv_neT (a := 4) h4 (by decide); have a5 := lv_neT (a := 5) h5 (by decide); have a6 := lv_neT (a := 6) h6 (by decide); have a7 := lv_neT (a := 7) h7 (by decide); have a8 := lv_neT (a := 8) h8 (by decide)
  omega
theorem cu_out6 {x : Int32} (h0 : ¬ x = 0) (h1 : ¬ x = 1) (h2 : ¬ x = 2) (h3 : ¬ x = 3) (h4 : ¬ x = 4) (h5 : ¬ x = 5) : x.toInt < 0 ∨ 5 < x.toInt := by
  have a0 := lv_neT (a := 0) h0 (by decide); have a1 := lv_neT (a := 1) h1 (by decide); have a2 := lv_neT (a := 2) h2 (by decide); have a3 := lv_neT (a := 3) h3 (by decide); have a4 := lv_neT (a := 4) h4 (by decide); have a5 := lv_neT (a := 5) h5 (by decide)
  omega
theorem cu_out4 {x : Int32} (h0 : ¬ x = 0) (h1 : ¬ x = 1) (h2 : ¬ x = 2) (h3 : ¬ x = 3) : x.toInt < 0 ∨ 3 < x.toInt := by
  have a0 := lv_neT (a := 0) h0 (by decide); have a1 := lv_neT (a := 1) h1 (by decide); have a2 := lv_neT (a := 2) h2 (by decide); have a3 := lv_neT (a := 3) h3 (by decide)
  omega
theorem cu_out3 {x : Int32} (h0 : ¬ x = 0) (h1 : ¬ x = 1) (h2 : ¬ x = 2) : x.toInt < 0 ∨ 2 < x.toInt := by
  have a0 := lv_neT (a := 0) h0 (by decide); have a1 := lv_neT (a := 1) h1 (by decide); have a2 := lv_neT (a := 2) h2 (by decide)
  omega
section CU
variable {p : Program} {l : Launch} {e : Env} {R : Room} {s : State} {m : MethodId} {args : Array Value} {below : List Frame} {meth : Method} {c : Code} {H : Heap} {locs : List Loc} {cells slots : Nat} {Q : State → Prop}
variable {cc : ByteArray} {pc : Nat} {ls : Array Slot} {rest : List Value} {D : va_G} {TY : List (ClassId × FieldType)} {A : Nat → Prop} {H0 : Heap}
theorem cu_topi {x y : Int32} (h : x = y) (k : W p l e R s m args below meth c H locs cells slots Q (F0 m pc ls (.int y :: rest))) : W p l e R s m args below meth c H locs cells slots Q (F0 m pc ls (.int x :: rest)) := h ▸ k
theorem cu_topl {x y : Int64} (h : x = y) (k : W p l e R s m args below meth c H locs cells slots Q (F0 m pc ls (.long y :: rest))) : W p l e R s m args below meth c H locs cells slots Q (F0 m pc ls (.long x :: rest)) := h ▸ k
theorem cu_topv {x y : Value} (h : x = y) (k : W p l e R s m args below meth c H locs cells slots Q (F0 m pc ls (y :: rest))) : W p l e R s m args below meth c H locs cells slots Q (F0 m pc ls (x :: rest)) := h ▸ k
abbrev cu_hd (y : MethodName) (n : Nat) : Prop := y.cls ≠ "java/lang/invoke/MethodHandle" ∧ y.cls ≠ "java/lang/invoke/VarHandle" ∧ (parseMethodDescriptor y.desc).map (fun d => d.parameters.length) = some n
theorem cu_cb {own : String} {mL index n fr lo mc ms : Nat} {y : MethodName} {bytes : ByteArray} {rt : Option FieldType} {nL : Nat}
    (S : CallFix p m c cc nL s args cu_G own) (hd : cu_hd y n) (k1 : Cond.code y bytes mL rt ∈ cu_G) (k2 : Cond.methodLink own index y ∈ cu_G) (k5 : Cond.initialized y.cls ∈ cu_G) (hR : fr + 1 ≤ R.frames ∧ 8 + (mL + 11) + lo ≤ R.locals) :
    CallB R s args own index y bytes mL rt (Cond.code y bytes mL rt :: cu_G) (cu_rm fr lo mc ms) mc ms n :=
  callB_of n S.2.2.2.2 (cu_in k1) rfl rfl rfl (S.2.2.2.2 _ k5) (S.2.2.2.2 _ k2) hd hR
theorem cu_VR {own : String} {nL mL index n fr lo : Nat} {y : MethodName} {bytes : ByteArray} {rt : FieldType} {b : Nat} {st : List Value} {wc ws : va_W} {post : Int32 → Prop} {ci : Nat} {T : u_T} {N : Nat} {fs : List Value}
    (As : List Value) (S : CallFix p m c cc nL s args cu_G own) (hM : cu_R l D TY y bytes mL rt fr lo (.ref b :: As) wc post) (hd : cu_hd y n)
    (k1 : Cond.code y bytes mL (some rt) ∈ cu_G) (k2 : Cond.methodLink own index y ∈ cu_G) (k3 : Cond.instanceMethod y ∈ cu_G) (k4 : Cond.selects y.cls y y ∈ cu_G) (k5 : Cond.initialized y.cls ∈ cu_G)
    (hR : fr + 1 ≤ R.frames ∧ 8 + (mL + 11) + lo ≤ R.locals) (hc : cells ≤ R.cells ∧ slots ≤ R.slots)
    (hP : va_P D vwCl ws H) (hK : cu_K D TY s) (is : List Nat) (hs : is.map (fun i => ws[i]?) = wc.map some) (q0 : Nat) (hb : wc[q0]? = some (b, .inr (ci, fs))) (hci : vwCl[ci]? = some (y.cls, T, N))
    (hn : As.length = n) (hsz : ls.size = nL) (hst : st = As.reverse ++ .ref b :: rest) (hrm : (rest.map fun v => v.category).sum ≤ 8) (hdg : decode cc pc = .ok (.invokevirtual index, 3))
    (kk : ∀ r : Int32, post r → W p l e R s m args below meth c H locs cells slots Q (F0 m (pc + 3) ls (.int r :: rest))) : W p l e R s m args below meth c H locs cells slots Q (F0 m pc ls st) := by
  have hPc := hP.sub (ws' := wc) is (cu_fm hs)
  refine vp_callSi (rest := rest) (va_Run.run (va_runV (As := As) (rest := rest) S hM ⟨cu_cb S hd k1 k2 k5 hR, S.2.2.2.2 _ k3, S.2.2.2.2 _ k4⟩ ⟨fun a U g mk q => ⟨q.1, q.2.1, q.2.2.call⟩, va_recv hK.1 hPc hci hb, fun U hU hW => ⟨rfl, by rw [hU]; exact hPc, hK.warm hW⟩⟩ rfl hn hsz hst (lv_room hrm) hdg hc)) kk
theorem cu_SR {own : String} {nL mL index n fr lo : Nat} {y : MethodName} {bytes : ByteArray} {rt : FieldType} {st : List Value} {wc ws : va_W} {post : Int32 → Prop}
    (As : List Value) (S : CallFix p m c cc nL s args cu_G own) (hM : cu_R l D TY y bytes mL rt fr lo As wc post) (hd : cu_hd y n)
    (k1 : Cond.code y bytes mL (some rt) ∈ cu_G) (k2 : Cond.methodLink own index y ∈ cu_G) (k3 : Cond.static y ∈ cu_G) (k5 : Cond.initialized y.cls ∈ cu_G)
    (hR : fr + 1 ≤ R.frames ∧ 8 + (mL + 11) + lo ≤ R.locals) (hc : cells ≤ R.cells ∧ slots ≤ R.slots)
    (hP : va_P D vwCl ws H) (hK : cu_K D TY s) (is : List Nat) (hs : is.map (fun i => ws[i]?) = wc.map some)
    (hn : As.length = n) (hsz : ls.size = nL) (hst : st = As.reverse ++ rest) (hrm : (rest.map fun v => v.category).sum ≤ 8) (hdg : decode cc pc = .ok (.invokestatic index, 3))
    (kk : ∀ r : Int32, post r → W p l e R s m args below meth c H locs cells slots Q (F0 m (pc + 3) ls (.int r :: rest))) : W p l e R s m args below meth c H locs cells slots Q (F0 m pc ls st) := by
  have hPc := hP.sub (ws' := wc) is (cu_fm hs)
  refine vp_callSi (rest := rest) (va_Run.run (va_runS (As := As) (rest := rest) S hM ⟨cu_cb S hd k1 k2 k5 hR, S.2.2.2.2 _ k3⟩ ⟨fun a U g mk q => ⟨q.1, q.2.1, q.2.2.call⟩, fun U hU hW => ⟨rfl, by rw [hU]; exact hPc, hK.warm hW⟩⟩ rfl hn hsz hst (lv_room hrm) hdg hc)) kk
/-- what the writing calls share: the callee's cells cut out, its start -/
theorem cu_pv {ws wc : va_W} {av : List Value} (hP : va_P D vwCl ws H) (hD : va_D A ws) (hK : cu_K D TY s) {isC : List Nat} (hC : isC.map (fun i => ws[i]?) = wc.map some) (hnC : va_nd isC = true) :
    FrameBlind (va_Pc av (cu_pre D TY wc H.size)) ∧ ∀ U : State, U.heap = H → s.WarmedH U.vm → va_Pc av (cu_pre D TY wc H.size) av.toArray U :=
  ⟨fun a U g mk q => ⟨q.1, q.2.1, q.2.2.1, q.2.2.2.1.call, q.2.2.2.2⟩, fun U hU hW => ⟨rfl, by rw [hU], by rw [hU]; exact hP.sub (ws' := wc) isC (cu_fm hC), hK.warm hW, (hD.sub (ws' := wc) isC hnC hC).weaken (fun _ _ _ _ => trivial)⟩⟩
theorem cu_VW {own : String} {nL mL index n fr lo mc ms : Nat} {y : MethodName} {bytes : ByteArray} {rt : FieldType} {b : Nat} {st : List Value} {wc wr ws : va_W} {post : Int32 → va_W → Prop} {ci : Nat} {T : u_T} {N : Nat} {fs : List Value}
    (As : List Value) (S : CallFix p m c cc nL s args cu_G own) (hM : cu_W l D TY y bytes mL rt fr lo mc ms (.ref b :: As) wc post) (hd : cu_hd y n)
    (k1 : Cond.code y bytes mL (some rt) ∈ cu_G) (k2 : Cond.methodLink own index y ∈ cu_G) (k3 : Cond.instanceMethod y ∈ cu_G) (k4 : Cond.selects y.cls y y ∈ cu_G) (k5 : Cond.initialized y.cls ∈ cu_G)
    (hR : fr + 1 ≤ R.frames ∧ 8 + (mL + 11) + lo ≤ R.locals) (hc : cells + mc ≤ R.cells ∧ slots + ms ≤ R.slots)
    (hP : va_P D vwCl ws H) (hD : va_D A ws) (hS : va_S A H0 H locs) (hA : ∀ q, H0.size ≤ q → A q) (hK : cu_K D TY s) (isC isR : List Nat) (hC : isC.map (fun i => ws[i]?) = wc.map some) (hRr : isR.map (fun i => ws[i]?) = wr.map some) (hnC : va_nd isC = true) (hnR : va_nd isR = true) (hdis : ∀ i ∈ isR, i ∉ isC)
    (q0 : Nat) (hb : wc[q0]? = some (b, .inr (ci, fs))) (hci : vwCl[ci]? = some (y.cls, T, N))
    (hn : As.length = n) (hsz : ls.size = nL) (hst : st = As.reverse ++ .ref b :: rest) (hrm : (rest.map fun v => v.category).sum ≤ 8) (hdg : decode cc pc = .ok (.invokevirtual index, 3))
    (kk : ∀ (r : Int32) (w : va_W) (H1 : Heap) (locs1 : List Loc), post r w → va_P D vwCl (wr ++ w) H1 → va_D A (wr ++ w) → va_S A H0 H1 locs1 → W p l e R s m args below meth c H1 locs1 (cells + mc) (slots + ms) Q (F0 m (pc + 3) ls (.int r :: rest))) : W p l e R s m args below meth c H locs cells slots Q (F0 m pc ls st) := by
  have hF := va_free (wc := wc) hD hS hA isC hC
  have hpv := cu_pv (av := .ref b :: As) hP hD hK hC hnC
  refine va_calli (va_runV (As := As) (rest := rest) S (hM H.size) ⟨cu_cb S hd k1 k2 k5 hR, S.2.2.2.2 _ k3, S.2.2.2.2 _ k4⟩ ⟨hpv.1, va_recv hK.1 (hP.sub (ws' := wc) isC (cu_fm hC)) hci hb, hpv.2⟩ rfl hn hsz hst (lv_room hrm) hdg hc) hS (fun q _ h => hF q h) hF (fun r w t H1 locs1 ht hvm hw hB hz1 hk1 hS1 => ?_)
  obtain ⟨hP1, hD1⟩ := hB
  rw [ht] at hP1
  obtain ⟨hP2, hD2⟩ := va_join (wr := wr) (w1 := w) hP hD isC isR hC hRr hnR hdis hk1 hF hP1 hD1
  exact kk r w H1 locs1 hw hP2 hD2 hS1
theorem cu_VL {own : String} {nL mL index n fr lo mc ms : Nat} {y : MethodName} {bytes : ByteArray} {b : Nat} {st : List Value} {wc wr ws : va_W} {post : Int64 → va_W → Prop} {ci : Nat} {T : u_T} {N : Nat} {fs : List Value}
    (As : List Value) (S : CallFix p m c cc nL s args cu_G own) (hM : cu_L l D TY y bytes mL fr lo mc ms (.ref b :: As) wc post) (hd : cu_hd y n)
    (k1 : Cond.code y bytes mL (some .long) ∈ cu_G) (k2 : Cond.methodLink own index y ∈ cu_G) (k3 : Cond.instanceMethod y ∈ cu_G) (k4 : Cond.selects y.cls y y ∈ cu_G) (k5 : Cond.initialized y.cls ∈ cu_G)
    (hR : fr + 1 ≤ R.frames ∧ 8 + (mL + 11) + lo ≤ R.locals) (hc : cells + mc ≤ R.cells ∧ slots + ms ≤ R.slots)
    (hP : va_P D vwCl ws H) (hD : va_D A ws) (hS : va_S A H0 H locs) (hA : ∀ q, H0.size ≤ q → A q) (hK : cu_K D TY s) (isC isR : List Nat) (hC : isC.map (fun i => ws[i]?) = wc.map some) (hRr : isR.map (fun i => ws[i]?) = wr.map some) (hnC : va_nd isC = true) (hnR : va_nd isR = true) (hdis : ∀ i ∈ isR, i ∉ isC)
    (q0 : Nat) (hb : wc[q0]? = some (b, .inr (ci, fs))) (hci : vwCl[ci]? = some (y.cls, T, N))
    (hn : As.length = n) (hsz : ls.size = nL) (hst : st = As.reverse ++ .ref b :: rest) (hrm : (rest.map fun v => v.category).sum ≤ 8) (hdg : decode cc pc = .ok (.invokevirtual index, 3))
    (kk : ∀ (r : Int64) (w : va_W) (H1 : Heap) (locs1 : List Loc), post r w → va_P D vwCl (wr ++ w) H1 → va_D A (wr ++ w) → va_S A H0 H1 locs1 → W p l e R s m args below meth c H1 locs1 (cells + mc) (slots + ms) Q (F0 m (pc + 3) ls (.long r :: rest))) : W p l e R s m args below meth c H locs cells slots Q (F0 m pc ls st) := by
  have hF := va_free (wc := wc) hD hS hA isC hC
  have hpv := cu_pv (av := .ref b :: As) hP hD hK hC hnC
  refine va_calll (va_runV (As := As) (rest := rest) S (hM H.size) ⟨cu_cb S hd k1 k2 k5 hR, S.2.2.2.2 _ k3, S.2.2.2.2 _ k4⟩ ⟨hpv.1, va_recv hK.1 (hP.sub (ws' := wc) isC (cu_fm hC)) hci hb, hpv.2⟩ rfl hn hsz hst (lv_room hrm) hdg hc) hS (fun q _ h => hF q h) hF (fun r w t H1 locs1 ht hvm hw hB hz1 hk1 hS1 => ?_)
  obtain ⟨hP1, hD1⟩ := hB
  rw [ht] at hP1
  obtain ⟨hP2, hD2⟩ := va_join (wr := wr) (w1 := w) hP hD isC isR hC hRr hnR hdis hk1 hF hP1 hD1
  exact kk r w H1 locs1 hw hP2 hD2 hS1
theorem cu_VV {own : String} {nL mL index n fr lo mc ms : Nat} {y : MethodName} {bytes : ByteArray} {b : Nat} {st : List Value} {wc wr ws : va_W} {post : va_W → Prop} {ci : Nat} {T : u_T} {N : Nat} {fs : List Value}
    (As : List Value) (S : CallFix p m c cc nL s args cu_G own) (hM : cu_V l D TY y bytes mL fr lo mc ms (.ref b :: As) wc post) (hd : cu_hd y n)
    (k1 : Cond.code y bytes mL none ∈ cu_G) (k2 : Cond.methodLink own index y ∈ cu_G) (k3 : Cond.instanceMethod y ∈ cu_G) (k4 : Cond.selects y.cls y y ∈ cu_G) (k5 : Cond.initialized y.cls ∈ cu_G)
    (hR : fr + 1 ≤ R.frames ∧ 8 + (mL + 11) + lo ≤ R.locals) (hc : cells + mc ≤ R.cells ∧ slots + ms ≤ R.slots)
    (hP : va_P D vwCl ws H) (hD : va_D A ws) (hS : va_S A H0 H locs) (hA : ∀ q, H0.size ≤ q → A q) (hK : cu_K D TY s) (isC isR : List Nat) (hC : isC.map (fun i => ws[i]?) = wc.map some) (hRr : isR.map (fun i => ws[i]?) = wr.map some) (hnC : va_nd isC = true) (hnR : va_nd isR = true) (hdis : ∀ i ∈ isR, i ∉ isC)
    (q0 : Nat) (hb : wc[q0]? = some (b, .inr (ci, fs))) (hci : vwCl[ci]? = some (y.cls, T, N))
    (hn : As.length = n) (hsz : ls.size = nL) (hst : st = As.reverse ++ .ref b :: rest) (hrm : (rest.map fun v => v.category).sum ≤ 8) (hdg : decode cc pc = .ok (.invokevirtual index, 3))
    (kk : ∀ (w : va_W) (H1 : Heap) (locs1 : List Loc), post w → va_P D vwCl (wr ++ w) H1 → va_D A (wr ++ w) → va_S A H0 H1 locs1 → W p l e R s m args below meth c H1 locs1 (cells + mc) (slots + ms) Q (F0 m (pc + 3) ls rest)) : W p l e R s m args below meth c H locs cells slots Q (F0 m pc ls st) := by
  have hF := va_free (wc := wc) hD hS hA isC hC
  have hpv := cu_pv (av := .ref b :: As) hP hD hK hC hnC
  refine va_callv (va_runV (As := As) (rest := rest) S (hM H.size) ⟨cu_cb S hd k1 k2 k5 hR, S.2.2.2.2 _ k3, S.2.2.2.2 _ k4⟩ ⟨hpv.1, va_recv hK.1 (hP.sub (ws' := wc) isC (cu_fm hC)) hci hb, hpv.2⟩ rfl hn hsz hst (lv_room hrm) hdg hc) hS (fun q _ h => hF q h) hF (fun w t H1 locs1 ht hvm hw hB hz1 hk1 hS1 => ?_)
  obtain ⟨hP1, hD1⟩ := hB
  rw [ht] at hP1
  obtain ⟨hP2, hD2⟩ := va_join (wr := wr) (w1 := w) hP hD isC isR hC hRr hnR hdis hk1 hF hP1 hD1
  exact kk w H1 locs1 hw hP2 hD2 hS1
theorem cu_SV {own : String} {nL mL index n fr lo mc ms : Nat} {y : MethodName} {bytes : ByteArray} {st : List Value} {wc wr ws : va_W} {post : va_W → Prop}
    (As : List Value) (S : CallFix p m c cc nL s args cu_G own) (hM : cu_V l D TY y bytes mL fr lo mc ms As wc post) (hd : cu_hd y n)
    (k1 : Cond.code y bytes mL none ∈ cu_G) (k2 : Cond.methodLink own index y ∈ cu_G) (k3 : Cond.static y ∈ cu_G) (k5 : Cond.initialized y.cls ∈ cu_G)
    (hR : fr + 1 ≤ R.frames ∧ 8 + (mL + 11) + lo ≤ R.locals) (hc : cells + mc ≤ R.cells ∧ slots + ms ≤ R.slots)
    (hP : va_P D vwCl ws H) (hD : va_D A ws) (hS : va_S A H0 H locs) (hA : ∀ q, H0.size ≤ q → A q) (hK : cu_K D TY s) (isC isR : List Nat) (hC : isC.map (fun i => ws[i]?) = wc.map some) (hRr : isR.map (fun i => ws[i]?) = wr.map some) (hnC : va_nd isC = true) (hnR : va_nd isR = true) (hdis : ∀ i ∈ isR, i ∉ isC)
    (hn : As.length = n) (hsz : ls.size = nL) (hst : st = As.reverse ++ rest) (hrm : (rest.map fun v => v.category).sum ≤ 8) (hdg : decode cc pc = .ok (.invokestatic index, 3))
    (kk : ∀ (w : va_W) (H1 : Heap) (locs1 : List Loc), post w → va_P D vwCl (wr ++ w) H1 → va_D A (wr ++ w) → va_S A H0 H1 locs1 → W p l e R s m args below meth c H1 locs1 (cells + mc) (slots + ms) Q (F0 m (pc + 3) ls rest)) : W p l e R s m args below meth c H locs cells slots Q (F0 m pc ls st) := by
  have hF := va_free (wc := wc) hD hS hA isC hC
  have hpv := cu_pv (av := As) hP hD hK hC hnC
  refine va_callv (va_runS (As := As) (rest := rest) S (hM H.size) ⟨cu_cb S hd k1 k2 k5 hR, S.2.2.2.2 _ k3⟩ ⟨hpv.1, hpv.2⟩ rfl hn hsz hst (lv_room hrm) hdg hc) hS (fun q _ h => hF q h) hF (fun w t H1 locs1 ht hvm hw hB hz1 hk1 hS1 => ?_)
  obtain ⟨hP1, hD1⟩ := hB
  rw [ht] at hP1
  obtain ⟨hP2, hD2⟩ := va_join (wr := wr) (w1 := w) hP hD isC isR hC hRr hnR hdis hk1 hF hP1 hD1
  exact kk w H1 locs1 hw hP2 hD2 hS1
theorem cu_SW {own : String} {nL mL index n fr lo mc ms : Nat} {y : MethodName} {bytes : ByteArray} {rt : FieldType} {st : List Value} {wc wr ws : va_W} {post : Int32 → va_W → Prop}
    (As : List Value) (S : CallFix p m c cc nL s args cu_G own) (hM : cu_W l D TY y bytes mL rt fr lo mc ms As wc post) (hd : cu_hd y n)
    (k1 : Cond.code y bytes mL (some rt) ∈ cu_G) (k2 : Cond.methodLink own index y ∈ cu_G) (k3 : Cond.static y ∈ cu_G) (k5 : Cond.initialized y.cls ∈ cu_G)
    (hR : fr + 1 ≤ R.frames ∧ 8 + (mL + 11) + lo ≤ R.locals) (hc : cells + mc ≤ R.cells ∧ slots + ms ≤ R.slots)
    (hP : va_P D vwCl ws H) (hD : va_D A ws) (hS : va_S A H0 H locs) (hA : ∀ q, H0.size ≤ q → A q) (hK : cu_K D TY s) (isC isR : List Nat) (hC : isC.map (fun i => ws[i]?) = wc.map some) (hRr : isR.map (fun i => ws[i]?) = wr.map some) (hnC : va_nd isC = true) (hnR : va_nd isR = true) (hdis : ∀ i ∈ isR, i ∉ isC)
    (hn : As.length = n) (hsz : ls.size = nL) (hst : st = As.reverse ++ rest) (hrm : (rest.map fun v => v.category).sum ≤ 8) (hdg : decode cc pc = .ok (.invokestatic index, 3))
    (kk : ∀ (r : Int32) (w : va_W) (H1 : Heap) (locs1 : List Loc), post r w → va_P D vwCl (wr ++ w) H1 → va_D A (wr ++ w) → va_S A H0 H1 locs1 → W p l e R s m args below meth c H1 locs1 (cells + mc) (slots + ms) Q (F0 m (pc + 3) ls (.int r :: rest))) : W p l e R s m args below meth c H locs cells slots Q (F0 m pc ls st) := by
  have hF := va_free (wc := wc) hD hS hA isC hC
  have hpv := cu_pv (av := As) hP hD hK hC hnC
  refine va_calli (va_runS (As := As) (rest := rest) S (hM H.size) ⟨cu_cb S hd k1 k2 k5 hR, S.2.2.2.2 _ k3⟩ ⟨hpv.1, hpv.2⟩ rfl hn hsz hst (lv_room hrm) hdg hc) hS (fun q _ h => hF q h) hF (fun r w t H1 locs1 ht hvm hw hB hz1 hk1 hS1 => ?_)
  obtain ⟨hP1, hD1⟩ := hB
  rw [ht] at hP1
  obtain ⟨hP2, hD2⟩ := va_join (wr := wr) (w1 := w) hP hD isC isR hC hRr hnR hdis hk1 hF hP1 hD1
  exact kk r w H1 locs1 hw hP2 hD2 hS1
theorem cu_VQ {own : String} {nL mL index n fr lo mc ms : Nat} {y : MethodName} {bytes : ByteArray} {rt : String} {b : Nat} {st : List Value} {wc wr ws : va_W} {post : Nat × va_W → Prop} {ci : Nat} {T : u_T} {N : Nat} {fs : List Value}
    (As : List Value) (S : CallFix p m c cc nL s args cu_G own) (hM : cu_Q l D TY y bytes mL rt fr lo mc ms (.ref b :: As) wc post) (hd : cu_hd y n)
    (k1 : Cond.code y bytes mL (some (.object rt)) ∈ cu_G) (k2 : Cond.methodLink own index y ∈ cu_G) (k3 : Cond.instanceMethod y ∈ cu_G) (k4 : Cond.selects y.cls y y ∈ cu_G) (k5 : Cond.initialized y.cls ∈ cu_G)
    (hR : fr + 1 ≤ R.frames ∧ 8 + (mL + 11) + lo ≤ R.locals) (hc : cells + mc ≤ R.cells ∧ slots + ms ≤ R.slots)
    (hP : va_P D vwCl ws H) (hD : va_D A ws) (hS : va_S A H0 H locs) (hA : ∀ q, H0.size ≤ q → A q) (hK : cu_K D TY s) (isC isR : List Nat) (hC : isC.map (fun i => ws[i]?) = wc.map some) (hRr : isR.map (fun i => ws[i]?) = wr.map some) (hnC : va_nd isC = true) (hnR : va_nd isR = true) (hdis : ∀ i ∈ isR, i ∉ isC)
    (q0 : Nat) (hb : wc[q0]? = some (b, .inr (ci, fs))) (hci : vwCl[ci]? = some (y.cls, T, N))
    (hn : As.length = n) (hsz : ls.size = nL) (hst : st = As.reverse ++ .ref b :: rest) (hrm : (rest.map fun v => v.category).sum ≤ 8) (hdg : decode cc pc = .ok (.invokevirtual index, 3))
    (kk : ∀ (r : Nat) (w : va_W) (H1 : Heap) (locs1 : List Loc), post (r, w) → va_P D vwCl (wr ++ w) H1 → va_D A (wr ++ w) → va_S A H0 H1 locs1 → W p l e R s m args below meth c H1 locs1 (cells + mc) (slots + ms) Q (F0 m (pc + 3) ls (.ref r :: rest))) : W p l e R s m args below meth c H locs cells slots Q (F0 m pc ls st) := by
  have hF := va_free (wc := wc) hD hS hA isC hC
  have hpv := cu_pv (av := .ref b :: As) hP hD hK hC hnC
  refine va_callr (va_runV (As := As) (rest := rest) S (hM H.size) ⟨cu_cb S hd k1 k2 k5 hR, S.2.2.2.2 _ k3, S.2.2.2.2 _ k4⟩ ⟨hpv.1, va_recv hK.1 (hP.sub (ws' := wc) isC (cu_fm hC)) hci hb, hpv.2⟩ rfl hn hsz hst (lv_room hrm) hdg hc) hS (fun q _ h => hF q h) hF (fun u ra t H1 locs1 ht hvm hw hB hz1 hk1 hS1 => ?_)
  obtain ⟨r, w⟩ := u
  obtain ⟨hra, hP1, hD1⟩ := hB
  dsimp only at hra hP1 hD1
  subst hra
  rw [ht] at hP1
  obtain ⟨hP2, hD2⟩ := va_join (wr := wr) (w1 := w) hP hD isC isR hC hRr hnR hdis hk1 hF hP1 hD1
  exact kk r w H1 locs1 hw hP2 hD2 hS1
/-- constructors: of a public class, and of a nest mate's private one -/
theorem cu_IV {own : String} {nL mL index n fr lo mc ms : Nat} {y : MethodName} {bytes : ByteArray} {b : Nat} {st : List Value} {wc wr ws : va_W} {post : va_W → Prop}
    (As : List Value) (S : CallFix p m c cc nL s args cu_G own) (hM : cu_V l D TY y bytes mL fr lo mc ms (.ref b :: As) wc post) (hd : cu_hd y n)
    (k1 : Cond.code y bytes mL none ∈ cu_G) (k2 : Cond.methodLink own index y ∈ cu_G) (k3 : Cond.instanceMethod y ∈ cu_G) (k5 : Cond.initialized y.cls ∈ cu_G) (hy : y.name = "<init>")
    (hR : fr + 1 ≤ R.frames ∧ 8 + (mL + 11) + lo ≤ R.locals) (hc : cells + mc ≤ R.cells ∧ slots + ms ≤ R.slots)
    (hP : va_P D vwCl ws H) (hD : va_D A ws) (hS : va_S A H0 H locs) (hA : ∀ q, H0.size ≤ q → A q) (hK : cu_K D TY s) (isC isR : List Nat) (hC : isC.map (fun i => ws[i]?) = wc.map some) (hRr : isR.map (fun i => ws[i]?) = wr.map some) (hnC : va_nd isC = true) (hnR : va_nd isR = true) (hdis : ∀ i ∈ isR, i ∉ isC)
    (hn : As.length = n) (hsz : ls.size = nL) (hst : st = As.reverse ++ .ref b :: rest) (hrm : (rest.map fun v => v.category).sum ≤ 8) (hdg : decode cc pc = .ok (.invokespecial index, 3))
    (kk : ∀ (w : va_W) (H1 : Heap) (locs1 : List Loc), post w → va_P D vwCl (wr ++ w) H1 → va_D A (wr ++ w) → va_S A H0 H1 locs1 → W p l e R s m args below meth c H1 locs1 (cells + mc) (slots + ms) Q (F0 m (pc + 3) ls rest)) : W p l e R s m args below meth c H locs cells slots Q (F0 m pc ls st) := by
  have hF := va_free (wc := wc) hD hS hA isC hC
  have hpv := cu_pv (av := .ref b :: As) hP hD hK hC hnC
  refine va_callv (va_runI (As := As) (rest := rest) S (hM H.size) ⟨cu_cb S hd k1 k2 k5 hR, hy, S.2.2.2.2 _ k3⟩ ⟨hpv.1, hpv.2⟩ rfl hn hsz hst (lv_room hrm) hdg hc) hS (fun q _ h => hF q h) hF (fun w t H1 locs1 ht hvm hw hB hz1 hk1 hS1 => ?_)
  obtain ⟨hP1, hD1⟩ := hB
  rw [ht] at hP1
  obtain ⟨hP2, hD2⟩ := va_join (wr := wr) (w1 := w) hP hD isC isR hC hRr hnR hdis hk1 hF hP1 hD1
  exact kk w H1 locs1 hw hP2 hD2 hS1
theorem cu_NV {own host : String} {nL mL index n fr lo mc ms : Nat} {y : MethodName} {bytes : ByteArray} {b : Nat} {st : List Value} {wc wr ws : va_W} {post : va_W → Prop}
    (As : List Value) (S : CallFix p m c cc nL s args cu_G own) (hM : cu_V l D TY y bytes mL fr lo mc ms (.ref b :: As) wc post) (hd : cu_hd y n)
    (k1 : Cond.code y bytes mL none ∈ cu_G) (k2 : va_Nw (.methodLinkNest own index y host) s) (k3 : Cond.instanceMethod y ∈ cu_G) (k5 : Cond.initialized y.cls ∈ cu_G) (hy : y.name = "<init>")
    (hR : fr + 1 ≤ R.frames ∧ 8 + (mL + 11) + lo ≤ R.locals) (hc : cells + mc ≤ R.cells ∧ slots + ms ≤ R.slots)
    (hP : va_P D vwCl ws H) (hD : va_D A ws) (hS : va_S A H0 H locs) (hA : ∀ q, H0.size ≤ q → A q) (hK : cu_K D TY s) (isC isR : List Nat) (hC : isC.map (fun i => ws[i]?) = wc.map some) (hRr : isR.map (fun i => ws[i]?) = wr.map some) (hnC : va_nd isC = true) (hnR : va_nd isR = true) (hdis : ∀ i ∈ isR, i ∉ isC)
    (hn : As.length = n) (hsz : ls.size = nL) (hst : st = As.reverse ++ .ref b :: rest) (hrm : (rest.map fun v => v.category).sum ≤ 8) (hdg : decode cc pc = .ok (.invokespecial index, 3))
    (kk : ∀ (w : va_W) (H1 : Heap) (locs1 : List Loc), post w → va_P D vwCl (wr ++ w) H1 → va_D A (wr ++ w) → va_S A H0 H1 locs1 → W p l e R s m args below meth c H1 locs1 (cells + mc) (slots + ms) Q (F0 m (pc + 3) ls rest)) : W p l e R s m args below meth c H locs cells slots Q (F0 m pc ls st) := by
  have hF := va_free (wc := wc) hD hS hA isC hC
  have hpv := cu_pv (av := .ref b :: As) hP hD hK hC hnC
  refine va_callv (va_runIN (As := As) (rest := rest) S (hM H.size) ⟨va_cnB n S.2.2.2.2 (cu_in k1) rfl rfl rfl k2 (S.2.2.2.2 _ k5) hd hR, hy, S.2.2.2.2 _ k3⟩ ⟨hpv.1, hpv.2⟩ rfl hn hsz hst (lv_room hrm) hdg hc) hS (fun q _ h => hF q h) hF (fun w t H1 locs1 ht hvm hw hB hz1 hk1 hS1 => ?_)
  obtain ⟨hP1, hD1⟩ := hB
  rw [ht] at hP1
  obtain ⟨hP2, hD2⟩ := va_join (wr := wr) (w1 := w) hP hD isC isR hC hRr hnR hdis hk1 hF hP1 hD1
  exact kk w H1 locs1 hw hP2 hD2 hS1
/-- new rows of ints and booleans, whose class is the one that the tables name -/
theorem cu_newI (N' : Nat) {cI cZ cQ : ClassId} {ws : va_W} (hexec : p.tables.exec = Jvm.exec) (hb : c.code = cc) (harr : (Cond.arrayClass .int).before args s = true) (hK : cu_K D (cu_TY cI cZ cQ) s) (hP : va_P D vwCl ws H) (hD : va_D A ws) (hS : va_S A H0 H locs) (hA : ∀ q, H0.size ≤ q → A q)
    {n : Int32} (hn : ¬ n < 0) (hN : n.toNatClampNeg = N') (hbytes : N' * 4 ≤ 536870912) (hcells : cells + 1 ≤ R.cells) (hslots : slots + N' ≤ R.slots) (hdg : decode cc pc = .ok (.newarray .int, 2))
    (kk : ∀ (q : Nat) (H1 : Heap), va_P D vwCl (ws ++ [(q, .inl (cI, N', .inl (fun _ => 0)))]) H1 → va_D A (ws ++ [(q, .inl (cI, N', .inl (fun _ => 0)))]) → va_S A H0 H1 locs → W p l e R s m args below meth c H1 locs (cells + 1) (slots + N') Q (F0 m (pc + 2) ls (.ref q :: rest))) : W p l e R s m args below meth c H locs cells slots Q (F0 m pc ls (.int n :: rest)) := by
  refine va_newa (atype := .int) (ty := .int) (N' := N') (a0 := (N', .inl (fun _ => 0))) hexec hb harr rfl hK.1 hP hD hS hA (fun cA => rfl) hn hN hbytes hcells hslots hdg (fun q cA H1 hK1 hP1 hD1 hS1 => ?_)
  have h1 := (hK.1.2 0 (cI, .int) rfl).2
  have h2 := (hK1.2 3 (cA, .int) rfl).2
  have h3 : cA = cI := Option.some.inj (h2.symm.trans h1)
  subst h3
  exact kk q H1 hP1 hD1 hS1
theorem cu_newZ (N' : Nat) {cI cZ cQ : ClassId} {ws : va_W} (hexec : p.tables.exec = Jvm.exec) (hb : c.code = cc) (harr : (Cond.arrayClass .boolean).before args s = true) (hK : cu_K D (cu_TY cI cZ cQ) s) (hP : va_P D vwCl ws H) (hD : va_D A ws) (hS : va_S A H0 H locs) (hA : ∀ q, H0.size ≤ q → A q)
    {n : Int32} (hn : ¬ n < 0) (hN : n.toNatClampNeg = N') (hbytes : N' * 1 ≤ 536870912) (hcells : cells + 1 ≤ R.cells) (hslots : slots + N' ≤ R.slots) (hdg : decode cc pc = .ok (.newarray .boolean, 2))
    (kk : ∀ (q : Nat) (H1 : Heap), va_P D vwCl (ws ++ [(q, .inl (cZ, N', .inl (fun _ => 0)))]) H1 → va_D A (ws ++ [(q, .inl (cZ, N', .inl (fun _ => 0)))]) → va_S A H0 H1 locs → W p l e R s m args below meth c H1 locs (cells + 1) (slots + N') Q (F0 m (pc + 2) ls (.ref q :: rest))) : W p l e R s m args below meth c H locs cells slots Q (F0 m pc ls (.int n :: rest)) := by
  refine va_newa (atype := .boolean) (ty := .boolean) (N' := N') (a0 := (N', .inl (fun _ => 0))) hexec hb harr rfl hK.1 hP hD hS hA (fun cA => rfl) hn hN hbytes hcells hslots hdg (fun q cA H1 hK1 hP1 hD1 hS1 => ?_)
  have h1 := (hK.1.2 1 (cZ, .boolean) rfl).2
  have h2 := (hK1.2 3 (cA, .boolean) rfl).2
  have h3 : cA = cZ := Option.some.inj (h2.symm.trans h1)
  subst h3
  exact kk q H1 hP1 hD1 hS1
theorem cu_newH (N' : Nat) {cI cZ cQ : ClassId} {own : String} {index : Nat} {ws : va_W} (hexec : p.tables.exec = Jvm.exec) (hb : c.code = cc) (hown : s.vm.findClass own = some m.cls) (hcl : (Cond.classLink own index "CommonUnits$Hoard").before args s = true) (hK : cu_K D (cu_TY cI cZ cQ) s) (hP : va_P D vwCl ws H) (hD : va_D A ws) (hS : va_S A H0 H locs) (hA : ∀ q, H0.size ≤ q → A q)
    {n : Int32} (hn : ¬ n < 0) (hN : n.toNatClampNeg = N') (hbytes : N' * 4 ≤ 536870912) (hcells : cells + 1 ≤ R.cells) (hslots : slots + N' ≤ R.slots) (hdg : decode cc pc = .ok (.anewarray index, 3))
    (kk : ∀ (q : Nat) (H1 : Heap), va_P D vwCl (ws ++ [(q, .inl (cQ, N', .inr (.inr (.inr (.inr (fun _ => none))))))]) H1 → va_D A (ws ++ [(q, .inl (cQ, N', .inr (.inr (.inr (.inr (fun _ => none))))))]) → va_S A H0 H1 locs → W p l e R s m args below meth c H1 locs (cells + 1) (slots + N') Q (F0 m (pc + 3) ls (.ref q :: rest))) : W p l e R s m args below meth c H locs cells slots Q (F0 m pc ls (.int n :: rest)) := by
  refine va_newq (C := "CommonUnits$Hoard") (N' := N') hexec hb hown hcl hK.2.1 hK.1 hP hD hS hA hn hN hbytes hcells hslots hdg (fun q cA H1 hK1 hP1 hD1 hS1 => ?_)
  obtain ⟨_, _, _, _, _, h1⟩ := (hK.1.2 2 (cQ, .object "CommonUnits$Hoard") rfl).2
  obtain ⟨_, _, _, _, _, h2⟩ := (hK1.2 3 (cA, .object "CommonUnits$Hoard") rfl).2
  have h3 : cA = cQ := Option.some.inj (h2.symm.trans h1)
  subst h3
  exact kk q H1 hP1 hD1 hS1
end CU
end
section
theorem d_X3_hasCoin_0 : decode cX3_hasCoin 0 = .ok (.iload_n 1, 1) := by decide +kernel
theorem d_X3_hasCoin_1 : decode cX3_hasCoin 1 = .ok (.ifCond .lt 15, 3) := by decide +kernel
theorem d_X3_hasCoin_16 : decode cX3_hasCoin 16 = .ok (.iconst 0, 1) := by decide +kernel
theorem d_X3_hasCoin_17 : decode cX3_hasCoin 17 = .ok (.ireturn, 1) := by decide +kernel
theorem d_X3_hasCoin_4 : decode cX3_hasCoin 4 = .ok (.iload_n 1, 1) := by decide +kernel
theorem d_X3_hasCoin_5 : decode cX3_hasCoin 5 = .ok (.aload_n 0, 1) := by decide +kernel
theorem d_X3_hasCoin_6 : decode cX3_hasCoin 6 = .ok (.getfield 28, 3) := by decide +kernel
theorem k_94 : (.fieldLink RX3 28 "CommonUnits$Hoard" "coins" "I" : Cond) ∈ cu_G := cu_mem 94 (by decide +kernel) (by decide +kernel)
theorem d_X3_hasCoin_9 : decode cX3_hasCoin 9 = .ok (.if_icmp .ge 7, 3) := by decide +kernel
theorem d_X3_hasMint_0 : decode cX3_hasMint 0 = .ok (.iload_n 1, 1) := by decide +kernel
theorem d_X3_hasMint_1 : decode cX3_hasMint 1 = .ok (.ifCond .lt 15, 3) := by decide +kernel
theorem d_X3_hasMint_16 : decode cX3_hasMint 16 = .ok (.iconst 0, 1) := by decide +kernel
theorem d_X3_hasMint_17 : decode cX3_hasMint 17 = .ok (.ireturn, 1) := by decide +kernel
theorem d_X3_hasMint_4 : decode cX3_hasMint 4 = .ok (.iload_n 1, 1) := by decide +kernel
theorem d_X3_hasMint_5 : decode cX3_hasMint 5 = .ok (.aload_n 0, 1) := by decide +kernel
theorem d_X3_hasMint_6 : decode cX3_hasMint 6 = .ok (.getfield 31, 3) := by decide +kernel
theorem k_97 : (.fieldLink RX3 31 "CommonUnits$Hoard" "mints" "I" : Cond) ∈ cu_G := cu_mem 97 (by decide +kernel) (by decide +kernel)
theorem d_X3_hasMint_9 : decode cX3_hasMint 9 = .ok (.if_icmp .ge 7, 3) := by decide +kernel
theorem d_X3_counts_0 : decode cX3_counts 0 = .ok (.aload_n 0, 1) := by decide +kernel
theorem d_X3_counts_1 : decode cX3_counts 1 = .ok (.iload_n 1, 1) := by decide +kernel
theorem d_X3_counts_2 : decode cX3_counts 2 = .ok (.invokevirtual 37, 3) := by decide +kernel
theorem hd_X3_hasCoin : cu_hd yX3_hasCoin 1 := by decide +kernel
theorem k_281 : (.code yX3_hasCoin cX3_hasCoin 2 (some .boolean) : Cond) ∈ cu_G := cu_mem 281 (by decide +kernel) (by decide +kernel)
theorem k_45 : (.initialized RX3 : Cond) ∈ cu_G := cu_mem 45 (by decide +kernel) (by decide +kernel)
theorem k_286 : (.methodLink RX3 37 yX3_hasCoin : Cond) ∈ cu_G := cu_mem 286 (by decide +kernel) (by decide +kernel)
theorem k_279 : (.instanceMethod yX3_hasCoin : Cond) ∈ cu_G := cu_mem 279 (by decide +kernel) (by decide +kernel)
theorem k_280 : (.selects RX3 yX3_hasCoin yX3_hasCoin : Cond) ∈ cu_G := cu_mem 280 (by decide +kernel) (by decide +kernel)
theorem d_X3_counts_5 : decode cX3_counts 5 = .ok (.ifCond .eq 16, 3) := by decide +kernel
theorem d_X3_counts_21 : decode cX3_counts 21 = .ok (.iconst 0, 1) := by decide +kernel
theorem d_X3_counts_22 : decode cX3_counts 22 = .ok (.ireturn, 1) := by decide +kernel
theorem d_X3_placeOf_0 : decode cX3_placeOf 0 = .ok (.iconst 0, 1) := by decide +kernel
theorem d_X3_placeOf_1 : decode cX3_placeOf 1 = .ok (.istore_n 2, 1) := by decide +kernel
theorem d_X3_placeOf_2 : decode cX3_placeOf 2 = .ok (.iconst 0, 1) := by decide +kernel
theorem d_X3_placeOf_3 : decode cX3_placeOf 3 = .ok (.istore_n 3, 1) := by decide +kernel
theorem d_X3_placeOf_4 : decode cX3_placeOf 4 = .ok (.iload_n 3, 1) := by decide +kernel
theorem d_X3_placeOf_5 : decode cX3_placeOf 5 = .ok (.aload_n 0, 1) := by decide +kernel
theorem d_X3_placeOf_6 : decode cX3_placeOf 6 = .ok (.getfield 28, 3) := by decide +kernel
theorem d_X3_placeOf_9 : decode cX3_placeOf 9 = .ok (.if_icmp .ge 25, 3) := by decide +kernel
theorem d_X3_placeOf_34 : decode cX3_placeOf 34 = .ok (.iload_n 2, 1) := by decide +kernel
theorem d_X3_placeOf_35 : decode cX3_placeOf 35 = .ok (.ireturn, 1) := by decide +kernel
theorem d_X3_counted_0 : decode cX3_counted 0 = .ok (.aload_n 0, 1) := by decide +kernel
theorem d_X3_counted_1 : decode cX3_counted 1 = .ok (.aload_n 0, 1) := by decide +kernel
theorem d_X3_counted_2 : decode cX3_counted 2 = .ok (.getfield 28, 3) := by decide +kernel
theorem d_X3_counted_5 : decode cX3_counted 5 = .ok (.invokevirtual 41, 3) := by decide +kernel
theorem hd_X3_placeOf : cu_hd yX3_placeOf 1 := by decide +kernel
theorem k_601 : (.code yX3_placeOf cX3_placeOf 4 (some .int) : Cond) ∈ cu_G := cu_mem 601 (by decide +kernel) (by decide +kernel)
theorem k_598 : (.methodLink RX3 41 yX3_placeOf : Cond) ∈ cu_G := cu_mem 598 (by decide +kernel) (by decide +kernel)
theorem k_599 : (.instanceMethod yX3_placeOf : Cond) ∈ cu_G := cu_mem 599 (by decide +kernel) (by decide +kernel)
theorem k_600 : (.selects RX3 yX3_placeOf yX3_placeOf : Cond) ∈ cu_G := cu_mem 600 (by decide +kernel) (by decide +kernel)
theorem d_X3_counted_8 : decode cX3_counted 8 = .ok (.ireturn, 1) := by decide +kernel
theorem d_X3_setAside_0 : decode cX3_setAside 0 = .ok (.iconst 0, 1) := by decide +kernel
theorem d_X3_setAside_1 : decode cX3_setAside 1 = .ok (.istore_n 1, 1) := by decide +kernel
theorem d_X3_setAside_2 : decode cX3_setAside 2 = .ok (.iconst 0, 1) := by decide +kernel
theorem d_X3_setAside_3 : decode cX3_setAside 3 = .ok (.istore_n 2, 1) := by decide +kernel
theorem d_X3_setAside_4 : decode cX3_setAside 4 = .ok (.iload_n 2, 1) := by decide +kernel
theorem d_X3_setAside_5 : decode cX3_setAside 5 = .ok (.aload_n 0, 1) := by decide +kernel
theorem d_X3_setAside_6 : decode cX3_setAside 6 = .ok (.getfield 28, 3) := by decide +kernel
theorem d_X3_setAside_9 : decode cX3_setAside 9 = .ok (.if_icmp .ge 20, 3) := by decide +kernel
theorem d_X3_setAside_29 : decode cX3_setAside 29 = .ok (.iload_n 1, 1) := by decide +kernel
theorem d_X3_setAside_30 : decode cX3_setAside 30 = .ok (.ireturn, 1) := by decide +kernel
theorem d_X3_setOfMint_0 : decode cX3_setOfMint 0 = .ok (.iconst 0, 1) := by decide +kernel
theorem d_X3_setOfMint_1 : decode cX3_setOfMint 1 = .ok (.istore_n 2, 1) := by decide +kernel
theorem d_X3_setOfMint_2 : decode cX3_setOfMint 2 = .ok (.iconst 0, 1) := by decide +kernel
theorem d_X3_setOfMint_3 : decode cX3_setOfMint 3 = .ok (.istore_n 3, 1) := by decide +kernel
theorem d_X3_setOfMint_4 : decode cX3_setOfMint 4 = .ok (.iload_n 3, 1) := by decide +kernel
theorem d_X3_setOfMint_5 : decode cX3_setOfMint 5 = .ok (.aload_n 0, 1) := by decide +kernel
theorem d_X3_setOfMint_6 : decode cX3_setOfMint 6 = .ok (.getfield 28, 3) := by decide +kernel
theorem d_X3_setOfMint_9 : decode cX3_setOfMint 9 = .ok (.if_icmp .ge 32, 3) := by decide +kernel
theorem d_X3_setOfMint_41 : decode cX3_setOfMint 41 = .ok (.iload_n 2, 1) := by decide +kernel
theorem d_X3_setOfMint_42 : decode cX3_setOfMint 42 = .ok (.ireturn, 1) := by decide +kernel
theorem d_X3_explainedBy_0 : decode cX3_explainedBy 0 = .ok (.iconst 0, 1) := by decide +kernel
theorem d_X3_explainedBy_1 : decode cX3_explainedBy 1 = .ok (.istore_n 2, 1) := by decide +kernel
theorem d_X3_explainedBy_2 : decode cX3_explainedBy 2 = .ok (.iconst 0, 1) := by decide +kernel
theorem d_X3_explainedBy_3 : decode cX3_explainedBy 3 = .ok (.istore_n 3, 1) := by decide +kernel
theorem d_X3_explainedBy_4 : decode cX3_explainedBy 4 = .ok (.iload_n 3, 1) := by decide +kernel
theorem d_X3_explainedBy_5 : decode cX3_explainedBy 5 = .ok (.aload_n 0, 1) := by decide +kernel
theorem d_X3_explainedBy_6 : decode cX3_explainedBy 6 = .ok (.getfield 28, 3) := by decide +kernel
theorem d_X3_explainedBy_9 : decode cX3_explainedBy 9 = .ok (.if_icmp .ge 34, 3) := by decide +kernel
theorem d_X3_explainedBy_43 : decode cX3_explainedBy 43 = .ok (.iload_n 2, 1) := by decide +kernel
theorem d_X3_explainedBy_44 : decode cX3_explainedBy 44 = .ok (.ireturn, 1) := by decide +kernel
theorem d_X3_lossesOf_0 : decode cX3_lossesOf 0 = .ok (.iconst 0, 1) := by decide +kernel
theorem d_X3_lossesOf_1 : decode cX3_lossesOf 1 = .ok (.istore_n 3, 1) := by decide +kernel
theorem d_X3_lossesOf_2 : decode cX3_lossesOf 2 = .ok (.iconst 0, 1) := by decide +kernel
theorem d_X3_lossesOf_3 : decode cX3_lossesOf 3 = .ok (.istore 4, 2) := by decide +kernel
theorem d_X3_lossesOf_5 : decode cX3_lossesOf 5 = .ok (.iload 4, 2) := by decide +kernel
theorem d_X3_lossesOf_7 : decode cX3_lossesOf 7 = .ok (.aload_n 0, 1) := by decide +kernel
theorem d_X3_lossesOf_8 : decode cX3_lossesOf 8 = .ok (.getfield 28, 3) := by decide +kernel
theorem d_X3_lossesOf_11 : decode cX3_lossesOf 11 = .ok (.if_icmp .ge 29, 3) := by decide +kernel
theorem d_X3_lossesOf_40 : decode cX3_lossesOf 40 = .ok (.iload_n 3, 1) := by decide +kernel
theorem d_X3_lossesOf_41 : decode cX3_lossesOf 41 = .ok (.ireturn, 1) := by decide +kernel
theorem d_X3_lackOf_0 : decode cX3_lackOf 0 = .ok (.iconst 0, 1) := by decide +kernel
theorem d_X3_lackOf_1 : decode cX3_lackOf 1 = .ok (.istore_n 3, 1) := by decide +kernel
theorem d_X3_lackOf_2 : decode cX3_lackOf 2 = .ok (.iconst 0, 1) := by decide +kernel
theorem d_X3_lackOf_3 : decode cX3_lackOf 3 = .ok (.istore 4, 2) := by decide +kernel
theorem d_X3_lackOf_5 : decode cX3_lackOf 5 = .ok (.iload 4, 2) := by decide +kernel
theorem d_X3_lackOf_7 : decode cX3_lackOf 7 = .ok (.aload_n 0, 1) := by decide +kernel
theorem d_X3_lackOf_8 : decode cX3_lackOf 8 = .ok (.getfield 28, 3) := by decide +kernel
theorem d_X3_lackOf_11 : decode cX3_lackOf 11 = .ok (.if_icmp .ge 43, 3) := by decide +kernel
theorem d_X3_lackOf_54 : decode cX3_lackOf 54 = .ok (.iload_n 3, 1) := by decide +kernel
theorem d_X3_lackOf_55 : decode cX3_lackOf 55 = .ok (.ireturn, 1) := by decide +kernel
theorem d_X3_recognizes_0 : decode cX3_recognizes 0 = .ok (.aload_n 0, 1) := by decide +kernel
theorem d_X3_recognizes_1 : decode cX3_recognizes 1 = .ok (.getfield 31, 3) := by decide +kernel
theorem d_X3_recognizes_4 : decode cX3_recognizes 4 = .ok (.iconst 1, 1) := by decide +kernel
theorem d_X3_recognizes_5 : decode cX3_recognizes 5 = .ok (.if_icmp .ge 8, 3) := by decide +kernel
theorem d_X3_recognizes_8 : decode cX3_recognizes 8 = .ok (.bipush (-9), 2) := by decide +kernel
theorem d_X3_recognizes_10 : decode cX3_recognizes 10 = .ok (.goto 9, 3) := by decide +kernel
theorem d_X3_recognizes_19 : decode cX3_recognizes 19 = .ok (.istore_n 2, 1) := by decide +kernel
theorem d_X3_recognizes_20 : decode cX3_recognizes 20 = .ok (.aload_n 0, 1) := by decide +kernel
theorem d_X3_recognizes_21 : decode cX3_recognizes 21 = .ok (.iload_n 2, 1) := by decide +kernel
theorem d_X3_recognizes_22 : decode cX3_recognizes 22 = .ok (.invokevirtual 81, 3) := by decide +kernel
theorem hd_X3_hasMint : cu_hd yX3_hasMint 1 := by decide +kernel
theorem k_321 : (.code yX3_hasMint cX3_hasMint 2 (some .boolean) : Cond) ∈ cu_G := cu_mem 321 (by decide +kernel) (by decide +kernel)
theorem k_660 : (.methodLink RX3 81 yX3_hasMint : Cond) ∈ cu_G := cu_mem 660 (by decide +kernel) (by decide +kernel)
theorem k_319 : (.instanceMethod yX3_hasMint : Cond) ∈ cu_G := cu_mem 319 (by decide +kernel) (by decide +kernel)
theorem k_320 : (.selects RX3 yX3_hasMint yX3_hasMint : Cond) ∈ cu_G := cu_mem 320 (by decide +kernel) (by decide +kernel)
theorem d_X3_recognizes_25 : decode cX3_recognizes 25 = .ok (.ifCond .ne 5, 3) := by decide +kernel
theorem d_X3_recognizes_28 : decode cX3_recognizes 28 = .ok (.iconst 0, 1) := by decide +kernel
theorem d_X3_recognizes_29 : decode cX3_recognizes 29 = .ok (.ireturn, 1) := by decide +kernel
set_option maxHeartbeats 4000000 in
set_option maxRecDepth 100000 in
theorem c_X3_hasCoin (l : Launch) (D : va_G) (cI cZ cQ : ClassId) (h w y a u : Nat) (rt lw : Int32) (c1 : Int32) : cu_R l D (cu_TY cI cZ cQ) yX3_hasCoin cX3_hasCoin 2 .boolean 0 0 [.ref h, .int c1] [(h, .inr (2, [.ref w, .ref y, .ref a, .ref u, .int 0, .int 0, .int rt, .int lw]))] (fun r => r = 0) := by
  refine cu_R.intro (by decide) (Nat.le_of_ble_eq_true rfl) ?_
  intro p e s m args below meth c Q ls S hret hP hK hl
  obtain ⟨hx, hb, hml, hown, hg⟩ := S
  have hown : s.vm.findClass RX3 = some m.cls := hown
  have hl : lv_has ls 2 [(0, .ref h), (1, .int c1)] := hl
  refine lv_iload_n hx hb d_X3_hasCoin_0 rfl (lv_at hl 1 rfl) ?_
  refine lv_if_lt (tgt := 16) hx hb d_X3_hasCoin_1 (by decide) (fun c_1 => ?_) (fun c_1 => ?_)
  · skip
    refine lv_iconst (v := 0) hx hb d_X3_hasCoin_16 (by decide) ?_
    exact hret _ _ _ d_X3_hasCoin_17 (by decide +kernel) (rfl)
  · skip
    refine lv_iload_n hx hb d_X3_hasCoin_4 rfl (lv_at hl 1 rfl) ?_
    refine lv_aload_n hx hb d_X3_hasCoin_5 rfl (lv_at hl 0 rfl) ?_
    refine va_get (D := D) (ci := 2) (v := .int 0) (C := RX3) (T := TX3) (N := 8) hx hb hg cu_iX3 hown hK.1 hP 0 rfl rfl 4 (by decide) (hg _ k_94) (fun _ h9 => h9) rfl d_X3_hasCoin_6 ?_
    refine lv_icmp_ge (tgt := 16) hx hb d_X3_hasCoin_9 (by decide) (fun _ => ?_) (fun c_2 => absurd (Int32.not_lt.mp c_1) c_2)
    refine lv_iconst (v := 0) hx hb d_X3_hasCoin_16 (by decide) ?_
    exact hret _ _ _ d_X3_hasCoin_17 (by decide +kernel) (rfl)
set_option maxHeartbeats 4000000 in
set_option maxRecDepth 100000 in
theorem c_X3_hasMint (l : Launch) (D : va_G) (cI cZ cQ : ClassId) (h w y a u : Nat) (rt lw : Int32) (c1 : Int32) : cu_R l D (cu_TY cI cZ cQ) yX3_hasMint cX3_hasMint 2 .boolean 0 0 [.ref h, .int c1] [(h, .inr (2, [.ref w, .ref y, .ref a, .ref u, .int 0, .int 0, .int rt, .int lw]))] (fun r => r = 0) := by
  refine cu_R.intro (by decide) (Nat.le_of_ble_eq_true rfl) ?_
  intro p e s m args below meth c Q ls S hret hP hK hl
  obtain ⟨hx, hb, hml, hown, hg⟩ := S
  have hown : s.vm.findClass RX3 = some m.cls := hown
  have hl : lv_has ls 2 [(0, .ref h), (1, .int c1)] := hl
  refine lv_iload_n hx hb d_X3_hasMint_0 rfl (lv_at hl 1 rfl) ?_
  refine lv_if_lt (tgt := 16) hx hb d_X3_hasMint_1 (by decide) (fun c_1 => ?_) (fun c_1 => ?_)
  · skip
    refine lv_iconst (v := 0) hx hb d_X3_hasMint_16 (by decide) ?_
    exact hret _ _ _ d_X3_hasMint_17 (by decide +kernel) (rfl)
  · skip
    refine lv_iload_n hx hb d_X3_hasMint_4 rfl (lv_at hl 1 rfl) ?_
    refine lv_aload_n hx hb d_X3_hasMint_5 rfl (lv_at hl 0 rfl) ?_
    refine va_get (D := D) (ci := 2) (v := .int 0) (C := RX3) (T := TX3) (N := 8) hx hb hg cu_iX3 hown hK.1 hP 0 rfl rfl 5 (by decide) (hg _ k_97) (fun _ h9 => h9) rfl d_X3_hasMint_6 ?_
    refine lv_icmp_ge (tgt := 16) hx hb d_X3_hasMint_9 (by decide) (fun _ => ?_) (fun c_2 => absurd (Int32.not_lt.mp c_1) c_2)
    refine lv_iconst (v := 0) hx hb d_X3_hasMint_16 (by decide) ?_
    exact hret _ _ _ d_X3_hasMint_17 (by decide +kernel) (rfl)
set_option maxHeartbeats 4000000 in
set_option maxRecDepth 100000 in
theorem c_X3_counts (l : Launch) (D : va_G) (cI cZ cQ : ClassId) (h w y a u : Nat) (rt lw : Int32) (c1 : Int32) : cu_R l D (cu_TY cI cZ cQ) yX3_counts cX3_counts 2 .boolean 1 21 [.ref h, .int c1] [(h, .inr (2, [.ref w, .ref y, .ref a, .ref u, .int 0, .int 0, .int rt, .int lw]))] (fun r => r = 0) := by
  refine cu_R.intro (by decide) (Nat.le_of_ble_eq_true rfl) ?_
  intro p e s m args below meth c Q ls S hret hP hK hl
  obtain ⟨hx, hb, hml, hown, hg⟩ := S
  have hown : s.vm.findClass RX3 = some m.cls := hown
  have hl : lv_has ls 2 [(0, .ref h), (1, .int c1)] := hl
  refine lv_aload_n hx hb d_X3_counts_0 rfl (lv_at hl 0 rfl) ?_
  refine lv_iload_n hx hb d_X3_counts_1 rfl (lv_at hl 1 rfl) ?_
  refine cu_VR (wc := [(h, .inr (2, [.ref w, .ref y, .ref a, .ref u, .int 0, .int 0, .int rt, .int lw]))]) (rest := []) [.int c1] ⟨hx, hb, hml, hown, hg⟩ (c_X3_hasCoin l D cI cZ cQ h w y a u rt lw c1) hd_X3_hasCoin k_281 k_286 k_279 k_280 k_45 ⟨Nat.le_of_ble_eq_true rfl, Nat.le_of_ble_eq_true rfl⟩ ⟨Nat.le_of_ble_eq_true rfl, Nat.le_of_ble_eq_true rfl⟩ hP hK [0] rfl 0 rfl rfl rfl hl.1 rfl (Nat.le_of_ble_eq_true rfl) d_X3_counts_2 (fun r_1 hr_2 => ?_)
  subst hr_2
  refine lv_if_eq (tgt := 21) hx hb d_X3_counts_5 (by decide) (fun _ => ?_) (fun c_3 => absurd (by decide +kernel) c_3)
  refine lv_iconst (v := 0) hx hb d_X3_counts_21 (by decide) ?_
  exact hret _ _ _ d_X3_counts_22 (by decide +kernel) (rfl)
set_option maxHeartbeats 4000000 in
set_option maxRecDepth 100000 in
theorem c_X3_placeOf (l : Launch) (D : va_G) (cI cZ cQ : ClassId) (h w y a u : Nat) (rt lw : Int32) : cu_R l D (cu_TY cI cZ cQ) yX3_placeOf cX3_placeOf 4 .int 0 0 [.ref h, .int 0] [(h, .inr (2, [.ref w, .ref y, .ref a, .ref u, .int 0, .int 0, .int rt, .int lw]))] (fun r => r = 0) := by
  refine cu_R.intro (by decide) (Nat.le_of_ble_eq_true rfl) ?_
  intro p e s m args below meth c Q ls S hret hP hK hl
  obtain ⟨hx, hb, hml, hown, hg⟩ := S
  have hown : s.vm.findClass RX3 = some m.cls := hown
  have hl : lv_has ls 4 [(0, .ref h), (1, .int 0)] := hl
  refine lv_iconst (v := 0) hx hb d_X3_placeOf_0 (by decide) ?_
  refine lv_istore_n (lv' := [(2, .int 0), (0, .ref h), (1, .int 0)]) hx hb d_X3_placeOf_1 rfl hl (by decide) rfl (fun ls hl => ?_)
  refine lv_iconst (v := 0) hx hb d_X3_placeOf_2 (by decide) ?_
  refine lv_istore_n (lv' := [(3, .int 0), (2, .int 0), (0, .ref h), (1, .int 0)]) hx hb d_X3_placeOf_3 rfl hl (by decide) rfl (fun ls hl => ?_)
  refine lv_iload_n hx hb d_X3_placeOf_4 rfl (lv_at hl 0 rfl) ?_
  refine lv_aload_n hx hb d_X3_placeOf_5 rfl (lv_at hl 2 rfl) ?_
  refine va_get (D := D) (ci := 2) (v := .int 0) (C := RX3) (T := TX3) (N := 8) hx hb hg cu_iX3 hown hK.1 hP 0 rfl rfl 4 (by decide) (hg _ k_94) (fun _ h9 => h9) rfl d_X3_placeOf_6 ?_
  refine lv_icmp_ge (tgt := 34) hx hb d_X3_placeOf_9 (by decide) (fun _ => ?_) (fun c_1 => absurd (by decide +kernel) c_1)
  refine lv_iload_n hx hb d_X3_placeOf_34 rfl (lv_at hl 1 rfl) ?_
  exact hret _ _ _ d_X3_placeOf_35 (rfl) (rfl)
set_option maxHeartbeats 4000000 in
set_option maxRecDepth 100000 in
theorem c_X3_counted (l : Launch) (D : va_G) (cI cZ cQ : ClassId) (h w y a u : Nat) (rt lw : Int32) : cu_R l D (cu_TY cI cZ cQ) yX3_counted cX3_counted 1 .int 1 23 [.ref h] [(h, .inr (2, [.ref w, .ref y, .ref a, .ref u, .int 0, .int 0, .int rt, .int lw]))] (fun r => r = 0) := by
  refine cu_R.intro (by decide) (Nat.le_of_ble_eq_true rfl) ?_
  intro p e s m args below meth c Q ls S hret hP hK hl
  obtain ⟨hx, hb, hml, hown, hg⟩ := S
  have hown : s.vm.findClass RX3 = some m.cls := hown
  have hl : lv_has ls 1 [(0, .ref h)] := hl
  refine lv_aload_n hx hb d_X3_counted_0 rfl (lv_at hl 0 rfl) ?_
  refine lv_aload_n hx hb d_X3_counted_1 rfl (lv_at hl 0 rfl) ?_
  refine va_get (D := D) (ci := 2) (v := .int 0) (C := RX3) (T := TX3) (N := 8) hx hb hg cu_iX3 hown hK.1 hP 0 rfl rfl 4 (by decide) (hg _ k_94) (fun _ h9 => h9) rfl d_X3_counted_2 ?_
  refine cu_VR (wc := [(h, .inr (2, [.ref w, .ref y, .ref a, .ref u, .int 0, .int 0, .int rt, .int lw]))]) (rest := []) [.int 0] ⟨hx, hb, hml, hown, hg⟩ (c_X3_placeOf l D cI cZ cQ h w y a u rt lw) hd_X3_placeOf k_601 k_598 k_599 k_600 k_45 ⟨Nat.le_of_ble_eq_true rfl, Nat.le_of_ble_eq_true rfl⟩ ⟨Nat.le_of_ble_eq_true rfl, Nat.le_of_ble_eq_true rfl⟩ hP hK [0] rfl 0 rfl rfl rfl hl.1 rfl (Nat.le_of_ble_eq_true rfl) d_X3_counted_5 (fun r_1 hr_2 => ?_)
  subst hr_2
  exact hret _ _ _ d_X3_counted_8 (rfl) (rfl)
set_option maxHeartbeats 4000000 in
set_option maxRecDepth 100000 in
theorem c_X3_setAside (l : Launch) (D : va_G) (cI cZ cQ : ClassId) (h w y a u : Nat) (rt lw : Int32) : cu_R l D (cu_TY cI cZ cQ) yX3_setAside cX3_setAside 3 .int 0 0 [.ref h] [(h, .inr (2, [.ref w, .ref y, .ref a, .ref u, .int 0, .int 0, .int rt, .int lw]))] (fun r => r = 0) := by
  refine cu_R.intro (by decide) (Nat.le_of_ble_eq_true rfl) ?_
  intro p e s m args below meth c Q ls S hret hP hK hl
  obtain ⟨hx, hb, hml, hown, hg⟩ := S
  have hown : s.vm.findClass RX3 = some m.cls := hown
  have hl : lv_has ls 3 [(0, .ref h)] := hl
  refine lv_iconst (v := 0) hx hb d_X3_setAside_0 (by decide) ?_
  refine lv_istore_n (lv' := [(1, .int 0), (0, .ref h)]) hx hb d_X3_setAside_1 rfl hl (by decide) rfl (fun ls hl => ?_)
  refine lv_iconst (v := 0) hx hb d_X3_setAside_2 (by decide) ?_
  refine lv_istore_n (lv' := [(2, .int 0), (1, .int 0), (0, .ref h)]) hx hb d_X3_setAside_3 rfl hl (by decide) rfl (fun ls hl => ?_)
  refine lv_iload_n hx hb d_X3_setAside_4 rfl (lv_at hl 0 rfl) ?_
  refine lv_aload_n hx hb d_X3_setAside_5 rfl (lv_at hl 2 rfl) ?_
  refine va_get (D := D) (ci := 2) (v := .int 0) (C := RX3) (T := TX3) (N := 8) hx hb hg cu_iX3 hown hK.1 hP 0 rfl rfl 4 (by decide) (hg _ k_94) (fun _ h9 => h9) rfl d_X3_setAside_6 ?_
  refine lv_icmp_ge (tgt := 29) hx hb d_X3_setAside_9 (by decide) (fun _ => ?_) (fun c_1 => absurd (by decide +kernel) c_1)
  refine lv_iload_n hx hb d_X3_setAside_29 rfl (lv_at hl 1 rfl) ?_
  exact hret _ _ _ d_X3_setAside_30 (rfl) (rfl)
set_option maxHeartbeats 4000000 in
set_option maxRecDepth 100000 in
theorem c_X3_setOfMint (l : Launch) (D : va_G) (cI cZ cQ : ClassId) (h w y a u : Nat) (rt lw : Int32) (c1 : Int32) : cu_R l D (cu_TY cI cZ cQ) yX3_setOfMint cX3_setOfMint 4 .int 0 0 [.ref h, .int c1] [(h, .inr (2, [.ref w, .ref y, .ref a, .ref u, .int 0, .int 0, .int rt, .int lw]))] (fun r => r = 0) := by
  refine cu_R.intro (by decide) (Nat.le_of_ble_eq_true rfl) ?_
  intro p e s m args below meth c Q ls S hret hP hK hl
  obtain ⟨hx, hb, hml, hown, hg⟩ := S
  have hown : s.vm.findClass RX3 = some m.cls := hown
  have hl : lv_has ls 4 [(0, .ref h), (1, .int c1)] := hl
  refine lv_iconst (v := 0) hx hb d_X3_setOfMint_0 (by decide) ?_
  refine lv_istore_n (lv' := [(2, .int 0), (0, .ref h), (1, .int c1)]) hx hb d_X3_setOfMint_1 rfl hl (by decide) rfl (fun ls hl => ?_)
  refine lv_iconst (v := 0) hx hb d_X3_setOfMint_2 (by decide) ?_
  refine lv_istore_n (lv' := [(3, .int 0), (2, .int 0), (0, .ref h), (1, .int c1)]) hx hb d_X3_setOfMint_3 rfl hl (by decide) rfl (fun ls hl => ?_)
  refine lv_iload_n hx hb d_X3_setOfMint_4 rfl (lv_at hl 0 rfl) ?_
  refine lv_aload_n hx hb d_X3_setOfMint_5 rfl (lv_at hl 2 rfl) ?_
  refine va_get (D := D) (ci := 2) (v := .int 0) (C := RX3) (T := TX3) (N := 8) hx hb hg cu_iX3 hown hK.1 hP 0 rfl rfl 4 (by decide) (hg _ k_94) (fun _ h9 => h9) rfl d_X3_setOfMint_6 ?_
  refine lv_icmp_ge (tgt := 41) hx hb d_X3_setOfMint_9 (by decide) (fun _ => ?_) (fun c_1 => absurd (by decide +kernel) c_1)
  refine lv_iload_n hx hb d_X3_setOfMint_41 rfl (lv_at hl 1 rfl) ?_
  exact hret _ _ _ d_X3_setOfMint_42 (rfl) (rfl)
set_option maxHeartbeats 4000000 in
set_option maxRecDepth 100000 in
theorem c_X3_explainedBy (l : Launch) (D : va_G) (cI cZ cQ : ClassId) (h w y a u : Nat) (rt lw : Int32) (c1 : Int32) : cu_R l D (cu_TY cI cZ cQ) yX3_explainedBy cX3_explainedBy 4 .int 0 0 [.ref h, .int c1] [(h, .inr (2, [.ref w, .ref y, .ref a, .ref u, .int 0, .int 0, .int rt, .int lw]))] (fun r => r = 0) := by
  refine cu_R.intro (by decide) (Nat.le_of_ble_eq_true rfl) ?_
  intro p e s m args below meth c Q ls S hret hP hK hl
  obtain ⟨hx, hb, hml, hown, hg⟩ := S
  have hown : s.vm.findClass RX3 = some m.cls := hown
  have hl : lv_has ls 4 [(0, .ref h), (1, .int c1)] := hl
  refine lv_iconst (v := 0) hx hb d_X3_explainedBy_0 (by decide) ?_
  refine lv_istore_n (lv' := [(2, .int 0), (0, .ref h), (1, .int c1)]) hx hb d_X3_explainedBy_1 rfl hl (by decide) rfl (fun ls hl => ?_)
  refine lv_iconst (v := 0) hx hb d_X3_explainedBy_2 (by decide) ?_
  refine lv_istore_n (lv' := [(3, .int 0), (2, .int 0), (0, .ref h), (1, .int c1)]) hx hb d_X3_explainedBy_3 rfl hl (by decide) rfl (fun ls hl => ?_)
  refine lv_iload_n hx hb d_X3_explainedBy_4 rfl (lv_at hl 0 rfl) ?_
  refine lv_aload_n hx hb d_X3_explainedBy_5 rfl (lv_at hl 2 rfl) ?_
  refine va_get (D := D) (ci := 2) (v := .int 0) (C := RX3) (T := TX3) (N := 8) hx hb hg cu_iX3 hown hK.1 hP 0 rfl rfl 4 (by decide) (hg _ k_94) (fun _ h9 => h9) rfl d_X3_explainedBy_6 ?_
  refine lv_icmp_ge (tgt := 43) hx hb d_X3_explainedBy_9 (by decide) (fun _ => ?_) (fun c_1 => absurd (by decide +kernel) c_1)
  refine lv_iload_n hx hb d_X3_explainedBy_43 rfl (lv_at hl 1 rfl) ?_
  exact hret _ _ _ d_X3_explainedBy_44 (rfl) (rfl)
set_option maxHeartbeats 4000000 in
set_option maxRecDepth 100000 in
theorem c_X3_lossesOf (l : Launch) (D : va_G) (cI cZ cQ : ClassId) (h w y a u : Nat) (rt lw : Int32) (c1 c2 : Int32) : cu_R l D (cu_TY cI cZ cQ) yX3_lossesOf cX3_lossesOf 5 .int 0 0 [.ref h, .int c1, .int c2] [(h, .inr (2, [.ref w, .ref y, .ref a, .ref u, .int 0, .int 0, .int rt, .int lw]))] (fun r => r = 0) := by
  refine cu_R.intro (by decide) (Nat.le_of_ble_eq_true rfl) ?_
  intro p e s m args below meth c Q ls S hret hP hK hl
  obtain ⟨hx, hb, hml, hown, hg⟩ := S
  have hown : s.vm.findClass RX3 = some m.cls := hown
  have hl : lv_has ls 5 [(0, .ref h), (1, .int c1), (2, .int c2)] := hl
  refine lv_iconst (v := 0) hx hb d_X3_lossesOf_0 (by decide) ?_
  refine lv_istore_n (lv' := [(3, .int 0), (0, .ref h), (1, .int c1), (2, .int c2)]) hx hb d_X3_lossesOf_1 rfl hl (by decide) rfl (fun ls hl => ?_)
  refine lv_iconst (v := 0) hx hb d_X3_lossesOf_2 (by decide) ?_
  refine lv_istore (lv' := [(4, .int 0), (3, .int 0), (0, .ref h), (1, .int c1), (2, .int c2)]) hx hb d_X3_lossesOf_3 hl (by decide) rfl (fun ls hl => ?_)
  refine lv_iload hx hb d_X3_lossesOf_5 (lv_at hl 0 rfl) ?_
  refine lv_aload_n hx hb d_X3_lossesOf_7 rfl (lv_at hl 2 rfl) ?_
  refine va_get (D := D) (ci := 2) (v := .int 0) (C := RX3) (T := TX3) (N := 8) hx hb hg cu_iX3 hown hK.1 hP 0 rfl rfl 4 (by decide) (hg _ k_94) (fun _ h9 => h9) rfl d_X3_lossesOf_8 ?_
  refine lv_icmp_ge (tgt := 40) hx hb d_X3_lossesOf_11 (by decide) (fun _ => ?_) (fun c_1 => absurd (by decide +kernel) c_1)
  refine lv_iload_n hx hb d_X3_lossesOf_40 rfl (lv_at hl 1 rfl) ?_
  exact hret _ _ _ d_X3_lossesOf_41 (rfl) (rfl)
set_option maxHeartbeats 4000000 in
set_option maxRecDepth 100000 in
theorem c_X3_lackOf (l : Launch) (D : va_G) (cI cZ cQ : ClassId) (h w y a u : Nat) (rt lw : Int32) (c1 c2 : Int32) : cu_R l D (cu_TY cI cZ cQ) yX3_lackOf cX3_lackOf 5 .int 0 0 [.ref h, .int c1, .int c2] [(h, .inr (2, [.ref w, .ref y, .ref a, .ref u, .int 0, .int 0, .int rt, .int lw]))] (fun r => r = 0) := by
  refine cu_R.intro (by decide) (Nat.le_of_ble_eq_true rfl) ?_
  intro p e s m args below meth c Q ls S hret hP hK hl
  obtain ⟨hx, hb, hml, hown, hg⟩ := S
  have hown : s.vm.findClass RX3 = some m.cls := hown
  have hl : lv_has ls 5 [(0, .ref h), (1, .int c1), (2, .int c2)] := hl
  refine lv_iconst (v := 0) hx hb d_X3_lackOf_0 (by decide) ?_
  refine lv_istore_n (lv' := [(3, .int 0), (0, .ref h), (1, .int c1), (2, .int c2)]) hx hb d_X3_lackOf_1 rfl hl (by decide) rfl (fun ls hl => ?_)
  refine lv_iconst (v := 0) hx hb d_X3_lackOf_2 (by decide) ?_
  refine lv_istore (lv' := [(4, .int 0), (3, .int 0), (0, .ref h), (1, .int c1), (2, .int c2)]) hx hb d_X3_lackOf_3 hl (by decide) rfl (fun ls hl => ?_)
  refine lv_iload hx hb d_X3_lackOf_5 (lv_at hl 0 rfl) ?_
  refine lv_aload_n hx hb d_X3_lackOf_7 rfl (lv_at hl 2 rfl) ?_
  refine va_get (D := D) (ci := 2) (v := .int 0) (C := RX3) (T := TX3) (N := 8) hx hb hg cu_iX3 hown hK.1 hP 0 rfl rfl 4 (by decide) (hg _ k_94) (fun _ h9 => h9) rfl d_X3_lackOf_8 ?_
  refine lv_icmp_ge (tgt := 54) hx hb d_X3_lackOf_11 (by decide) (fun _ => ?_) (fun c_1 => absurd (by decide +kernel) c_1)
  refine lv_iload_n hx hb d_X3_lackOf_54 rfl (lv_at hl 1 rfl) ?_
  exact hret _ _ _ d_X3_lackOf_55 (rfl) (rfl)
set_option maxHeartbeats 4000000 in
set_option maxRecDepth 100000 in
theorem c_X3_recognizes (l : Launch) (D : va_G) (cI cZ cQ : ClassId) (h w y a u : Nat) (rt lw : Int32) (c1 : Int32) : cu_R l D (cu_TY cI cZ cQ) yX3_recognizes cX3_recognizes 6 .boolean 1 21 [.ref h, .int c1] [(h, .inr (2, [.ref w, .ref y, .ref a, .ref u, .int 0, .int 0, .int rt, .int lw]))] (fun r => r = 0) := by
  refine cu_R.intro (by decide) (Nat.le_of_ble_eq_true rfl) ?_
  intro p e s m args below meth c Q ls S hret hP hK hl
  obtain ⟨hx, hb, hml, hown, hg⟩ := S
  have hown : s.vm.findClass RX3 = some m.cls := hown
  have hl : lv_has ls 6 [(0, .ref h), (1, .int c1)] := hl
  refine lv_aload_n hx hb d_X3_recognizes_0 rfl (lv_at hl 0 rfl) ?_
  refine va_get (D := D) (ci := 2) (v := .int 0) (C := RX3) (T := TX3) (N := 8) hx hb hg cu_iX3 hown hK.1 hP 0 rfl rfl 5 (by decide) (hg _ k_97) (fun _ h9 => h9) rfl d_X3_recognizes_1 ?_
  refine lv_iconst (v := 1) hx hb d_X3_recognizes_4 (by decide) ?_
  refine lv_icmp_ge (tgt := 13) hx hb d_X3_recognizes_5 (by decide) (fun c_1 => absurd c_1 (by decide +kernel)) (fun _ => ?_)
  refine lv_bipush (v := (-9)) hx hb d_X3_recognizes_8 (by decide) ?_
  refine lv_goto (tgt := 19) hx hb d_X3_recognizes_10 (by decide) ?_
  refine lv_istore_n (lv' := [(2, .int (-9)), (0, .ref h), (1, .int c1)]) hx hb d_X3_recognizes_19 rfl hl (by decide) rfl (fun ls hl => ?_)
  refine lv_aload_n hx hb d_X3_recognizes_20 rfl (lv_at hl 1 rfl) ?_
  refine lv_iload_n hx hb d_X3_recognizes_21 rfl (lv_at hl 0 rfl) ?_
  refine cu_VR (wc := [(h, .inr (2, [.ref w, .ref y, .ref a, .ref u, .int 0, .int 0, .int rt, .int lw]))]) (rest := []) [.int (-9)] ⟨hx, hb, hml, hown, hg⟩ (c_X3_hasMint l D cI cZ cQ h w y a u rt lw (-9)) hd_X3_hasMint k_321 k_660 k_319 k_320 k_45 ⟨Nat.le_of_ble_eq_true rfl, Nat.le_of_ble_eq_true rfl⟩ ⟨Nat.le_of_ble_eq_true rfl, Nat.le_of_ble_eq_true rfl⟩ hP hK [0] rfl 0 rfl rfl rfl hl.1 rfl (Nat.le_of_ble_eq_true rfl) d_X3_recognizes_22 (fun r_2 hr_3 => ?_)
  subst hr_3
  refine lv_if_ne (tgt := 30) hx hb d_X3_recognizes_25 (by decide) (fun c_4 => absurd (by decide +kernel) c_4) (fun _ => ?_)
  refine lv_iconst (v := 0) hx hb d_X3_recognizes_28 (by decide) ?_
  exact hret _ _ _ d_X3_recognizes_29 (by decide +kernel) (rfl)
end
section
theorem d_X3_init_0 : decode cX3_init 0 = .ok (.aload_n 0, 1) := by decide +kernel
theorem d_X3_init_1 : decode cX3_init 1 = .ok (.invokespecial 3, 3) := by decide +kernel
theorem k_83 : (.methodLink RX3 3 objectInit : Cond) ∈ cu_G := cu_mem 83 (by decide +kernel) (by decide +kernel)
theorem k_61 : (.instanceMethod objectInit : Cond) ∈ cu_G := cu_mem 61 (by decide +kernel) (by decide +kernel)
theorem k_62 : (.code objectInit ⟨#[0xb1]⟩ 1 none : Cond) ∈ cu_G := cu_mem 62 (by decide +kernel) (by decide +kernel)
theorem d_X3_init_4 : decode cX3_init 4 = .ok (.aload_n 0, 1) := by decide +kernel
theorem d_X3_init_5 : decode cX3_init 5 = .ok (.bipush 12, 2) := by decide +kernel
theorem d_X3_init_7 : decode cX3_init 7 = .ok (.newarray .int, 2) := by decide +kernel
theorem k_77 : (.arrayClass .int : Cond) ∈ cu_G := cu_mem 77 (by decide +kernel) (by decide +kernel)
theorem d_X3_init_9 : decode cX3_init 9 = .ok (.putfield 9, 3) := by decide +kernel
theorem k_84 : (.fieldLink RX3 9 "CommonUnits$Hoard" "weights" "[I" : Cond) ∈ cu_G := cu_mem 84 (by decide +kernel) (by decide +kernel)
theorem d_X3_init_12 : decode cX3_init 12 = .ok (.aload_n 0, 1) := by decide +kernel
theorem d_X3_init_13 : decode cX3_init 13 = .ok (.bipush 12, 2) := by decide +kernel
theorem d_X3_init_15 : decode cX3_init 15 = .ok (.newarray .int, 2) := by decide +kernel
theorem d_X3_init_17 : decode cX3_init 17 = .ok (.putfield 15, 3) := by decide +kernel
theorem k_87 : (.fieldLink RX3 15 "CommonUnits$Hoard" "years" "[I" : Cond) ∈ cu_G := cu_mem 87 (by decide +kernel) (by decide +kernel)
theorem d_X3_init_20 : decode cX3_init 20 = .ok (.aload_n 0, 1) := by decide +kernel
theorem d_X3_init_21 : decode cX3_init 21 = .ok (.bipush 12, 2) := by decide +kernel
theorem d_X3_init_23 : decode cX3_init 23 = .ok (.newarray .int, 2) := by decide +kernel
theorem d_X3_init_25 : decode cX3_init 25 = .ok (.putfield 18, 3) := by decide +kernel
theorem k_89 : (.fieldLink RX3 18 "CommonUnits$Hoard" "asides" "[I" : Cond) ∈ cu_G := cu_mem 89 (by decide +kernel) (by decide +kernel)
theorem d_X3_init_28 : decode cX3_init 28 = .ok (.aload_n 0, 1) := by decide +kernel
theorem d_X3_init_29 : decode cX3_init 29 = .ok (.iconst 3, 1) := by decide +kernel
theorem d_X3_init_30 : decode cX3_init 30 = .ok (.newarray .int, 2) := by decide +kernel
theorem d_X3_init_32 : decode cX3_init 32 = .ok (.putfield 21, 3) := by decide +kernel
theorem k_92 : (.fieldLink RX3 21 "CommonUnits$Hoard" "units" "[I" : Cond) ∈ cu_G := cu_mem 92 (by decide +kernel) (by decide +kernel)
theorem d_X3_init_35 : decode cX3_init 35 = .ok (.aload_n 0, 1) := by decide +kernel
theorem d_X3_init_36 : decode cX3_init 36 = .ok (.iconst 1, 1) := by decide +kernel
theorem d_X3_init_37 : decode cX3_init 37 = .ok (.putfield 24, 3) := by decide +kernel
theorem k_100 : (.fieldLink RX3 24 "CommonUnits$Hoard" "rate" "I" : Cond) ∈ cu_G := cu_mem 100 (by decide +kernel) (by decide +kernel)
theorem d_X3_init_40 : decode cX3_init 40 = .ok (.return_, 1) := by decide +kernel
theorem d_X7_init_0 : decode cX7_init 0 = .ok (.aload_n 0, 1) := by decide +kernel
theorem d_X7_init_1 : decode cX7_init 1 = .ok (.invokespecial 3, 3) := by decide +kernel
theorem k_68 : (.methodLink RX7 3 objectInit : Cond) ∈ cu_G := cu_mem 68 (by decide +kernel) (by decide +kernel)
theorem d_X7_init_4 : decode cX7_init 4 = .ok (.aload_n 0, 1) := by decide +kernel
theorem d_X7_init_5 : decode cX7_init 5 = .ok (.sipush 130, 3) := by decide +kernel
theorem d_X7_init_8 : decode cX7_init 8 = .ok (.newarray .int, 2) := by decide +kernel
theorem d_X7_init_10 : decode cX7_init 10 = .ok (.putfield 9, 3) := by decide +kernel
theorem k_69 : (.fieldLink RX7 9 "CommonUnits$Text" "signs" "[I" : Cond) ∈ cu_G := cu_mem 69 (by decide +kernel) (by decide +kernel)
theorem d_X7_init_13 : decode cX7_init 13 = .ok (.return_, 1) := by decide +kernel
theorem d_X0_init_0 : decode cX0_init 0 = .ok (.aload_n 0, 1) := by decide +kernel
theorem d_X0_init_1 : decode cX0_init 1 = .ok (.invokespecial 3, 3) := by decide +kernel
theorem k_126 : (.methodLink RX0 3 objectInit : Cond) ∈ cu_G := cu_mem 126 (by decide +kernel) (by decide +kernel)
theorem d_X0_init_4 : decode cX0_init 4 = .ok (.aload_n 0, 1) := by decide +kernel
theorem d_X0_init_5 : decode cX0_init 5 = .ok (.bipush 14, 2) := by decide +kernel
theorem d_X0_init_7 : decode cX0_init 7 = .ok (.newarray .int, 2) := by decide +kernel
theorem d_X0_init_9 : decode cX0_init 9 = .ok (.putfield 9, 3) := by decide +kernel
theorem k_127 : (.fieldLink RX0 9 "CommonUnits$Acts" "kinds" "[I" : Cond) ∈ cu_G := cu_mem 127 (by decide +kernel) (by decide +kernel)
theorem d_X0_init_12 : decode cX0_init 12 = .ok (.aload_n 0, 1) := by decide +kernel
theorem d_X0_init_13 : decode cX0_init 13 = .ok (.bipush 14, 2) := by decide +kernel
theorem d_X0_init_15 : decode cX0_init 15 = .ok (.newarray .int, 2) := by decide +kernel
theorem d_X0_init_17 : decode cX0_init 17 = .ok (.putfield 15, 3) := by decide +kernel
theorem k_128 : (.fieldLink RX0 15 "CommonUnits$Acts" "indexes" "[I" : Cond) ∈ cu_G := cu_mem 128 (by decide +kernel) (by decide +kernel)
theorem d_X0_init_20 : decode cX0_init 20 = .ok (.aload_n 0, 1) := by decide +kernel
theorem d_X0_init_21 : decode cX0_init 21 = .ok (.bipush 14, 2) := by decide +kernel
theorem d_X0_init_23 : decode cX0_init 23 = .ok (.newarray .int, 2) := by decide +kernel
theorem d_X0_init_25 : decode cX0_init 25 = .ok (.putfield 18, 3) := by decide +kernel
theorem k_129 : (.fieldLink RX0 18 "CommonUnits$Acts" "befores" "[I" : Cond) ∈ cu_G := cu_mem 129 (by decide +kernel) (by decide +kernel)
theorem d_X0_init_28 : decode cX0_init 28 = .ok (.return_, 1) := by decide +kernel
theorem d_X1_init_0 : decode cX1_init 0 = .ok (.aload_n 0, 1) := by decide +kernel
theorem d_X1_init_1 : decode cX1_init 1 = .ok (.invokespecial 3, 3) := by decide +kernel
theorem k_149 : (.methodLink RX1 3 objectInit : Cond) ∈ cu_G := cu_mem 149 (by decide +kernel) (by decide +kernel)
theorem d_X1_init_4 : decode cX1_init 4 = .ok (.aload_n 0, 1) := by decide +kernel
theorem d_X1_init_5 : decode cX1_init 5 = .ok (.sipush 256, 3) := by decide +kernel
theorem d_X1_init_8 : decode cX1_init 8 = .ok (.newarray .int, 2) := by decide +kernel
theorem d_X1_init_10 : decode cX1_init 10 = .ok (.putfield 9, 3) := by decide +kernel
theorem k_150 : (.fieldLink RX1 9 "CommonUnits$Crowd" "values" "[I" : Cond) ∈ cu_G := cu_mem 150 (by decide +kernel) (by decide +kernel)
theorem d_X1_init_13 : decode cX1_init 13 = .ok (.return_, 1) := by decide +kernel
theorem d_X4_init_0 : decode cX4_init 0 = .ok (.aload_n 0, 1) := by decide +kernel
theorem d_X4_init_1 : decode cX4_init 1 = .ok (.invokespecial 3, 3) := by decide +kernel
theorem k_165 : (.methodLink RX4 3 objectInit : Cond) ∈ cu_G := cu_mem 165 (by decide +kernel) (by decide +kernel)
theorem d_X4_init_4 : decode cX4_init 4 = .ok (.aload_n 0, 1) := by decide +kernel
theorem d_X4_init_5 : decode cX4_init 5 = .ok (.bipush 6, 2) := by decide +kernel
theorem d_X4_init_7 : decode cX4_init 7 = .ok (.newarray .int, 2) := by decide +kernel
theorem d_X4_init_9 : decode cX4_init 9 = .ok (.putfield 9, 3) := by decide +kernel
theorem k_166 : (.fieldLink RX4 9 "CommonUnits$Sightings" "coins" "[I" : Cond) ∈ cu_G := cu_mem 166 (by decide +kernel) (by decide +kernel)
theorem d_X4_init_12 : decode cX4_init 12 = .ok (.aload_n 0, 1) := by decide +kernel
theorem d_X4_init_13 : decode cX4_init 13 = .ok (.bipush 6, 2) := by decide +kernel
theorem d_X4_init_15 : decode cX4_init 15 = .ok (.newarray .boolean, 2) := by decide +kernel
theorem k_177 : (.arrayClass .boolean : Cond) ∈ cu_G := cu_mem 177 (by decide +kernel) (by decide +kernel)
theorem d_X4_init_17 : decode cX4_init 17 = .ok (.putfield 15, 3) := by decide +kernel
theorem k_167 : (.fieldLink RX4 15 "CommonUnits$Sightings" "fitting" "[Z" : Cond) ∈ cu_G := cu_mem 167 (by decide +kernel) (by decide +kernel)
theorem d_X4_init_20 : decode cX4_init 20 = .ok (.return_, 1) := by decide +kernel
theorem d_X6_init_0 : decode cX6_init 0 = .ok (.aload_n 0, 1) := by decide +kernel
theorem d_X6_init_1 : decode cX6_init 1 = .ok (.invokespecial 3, 3) := by decide +kernel
theorem k_430 : (.methodLink RX6 3 objectInit : Cond) ∈ cu_G := cu_mem 430 (by decide +kernel) (by decide +kernel)
theorem d_X6_init_4 : decode cX6_init 4 = .ok (.aload_n 0, 1) := by decide +kernel
theorem d_X6_init_5 : decode cX6_init 5 = .ok (.bipush 12, 2) := by decide +kernel
theorem d_X6_init_7 : decode cX6_init 7 = .ok (.newarray .int, 2) := by decide +kernel
theorem d_X6_init_9 : decode cX6_init 9 = .ok (.putfield 9, 3) := by decide +kernel
theorem k_431 : (.fieldLink RX6 9 "CommonUnits$Survey" "weights" "[I" : Cond) ∈ cu_G := cu_mem 431 (by decide +kernel) (by decide +kernel)
theorem d_X6_init_12 : decode cX6_init 12 = .ok (.aload_n 0, 1) := by decide +kernel
theorem d_X6_init_13 : decode cX6_init 13 = .ok (.bipush 12, 2) := by decide +kernel
theorem d_X6_init_15 : decode cX6_init 15 = .ok (.newarray .int, 2) := by decide +kernel
theorem d_X6_init_17 : decode cX6_init 17 = .ok (.putfield 15, 3) := by decide +kernel
theorem k_432 : (.fieldLink RX6 15 "CommonUnits$Survey" "wears" "[I" : Cond) ∈ cu_G := cu_mem 432 (by decide +kernel) (by decide +kernel)
theorem d_X6_init_20 : decode cX6_init 20 = .ok (.aload_n 0, 1) := by decide +kernel
theorem d_X6_init_21 : decode cX6_init 21 = .ok (.sipush 12000, 3) := by decide +kernel
theorem d_X6_init_24 : decode cX6_init 24 = .ok (.newarray .int, 2) := by decide +kernel
theorem d_X6_init_26 : decode cX6_init 26 = .ok (.putfield 18, 3) := by decide +kernel
theorem k_433 : (.fieldLink RX6 18 "CommonUnits$Survey" "lacks" "[I" : Cond) ∈ cu_G := cu_mem 433 (by decide +kernel) (by decide +kernel)
theorem d_X6_init_29 : decode cX6_init 29 = .ok (.aload_n 0, 1) := by decide +kernel
theorem d_X6_init_30 : decode cX6_init 30 = .ok (.sipush 1000, 3) := by decide +kernel
theorem d_X6_init_33 : decode cX6_init 33 = .ok (.newarray .int, 2) := by decide +kernel
theorem d_X6_init_35 : decode cX6_init 35 = .ok (.putfield 21, 3) := by decide +kernel
theorem k_434 : (.fieldLink RX6 21 "CommonUnits$Survey" "sums" "[I" : Cond) ∈ cu_G := cu_mem 434 (by decide +kernel) (by decide +kernel)
theorem d_X6_init_38 : decode cX6_init 38 = .ok (.aload_n 0, 1) := by decide +kernel
theorem d_X6_init_39 : decode cX6_init 39 = .ok (.sipush 999, 3) := by decide +kernel
theorem d_X6_init_42 : decode cX6_init 42 = .ok (.newarray .int, 2) := by decide +kernel
theorem d_X6_init_44 : decode cX6_init 44 = .ok (.putfield 24, 3) := by decide +kernel
theorem k_435 : (.fieldLink RX6 24 "CommonUnits$Survey" "order" "[I" : Cond) ∈ cu_G := cu_mem 435 (by decide +kernel) (by decide +kernel)
theorem d_X6_init_47 : decode cX6_init 47 = .ok (.aload_n 0, 1) := by decide +kernel
theorem d_X6_init_48 : decode cX6_init 48 = .ok (.iconst 1, 1) := by decide +kernel
theorem d_X6_init_49 : decode cX6_init 49 = .ok (.putfield 27, 3) := by decide +kernel
theorem k_436 : (.fieldLink RX6 27 "CommonUnits$Survey" "version" "I" : Cond) ∈ cu_G := cu_mem 436 (by decide +kernel) (by decide +kernel)
theorem d_X6_init_52 : decode cX6_init 52 = .ok (.return_, 1) := by decide +kernel
theorem d_X8_init_0 : decode cX8_init 0 = .ok (.aload_n 0, 1) := by decide +kernel
theorem d_X8_init_1 : decode cX8_init 1 = .ok (.invokespecial 3, 3) := by decide +kernel
theorem k_60 : (.methodLink RX8 3 objectInit : Cond) ∈ cu_G := cu_mem 60 (by decide +kernel) (by decide +kernel)
theorem d_X8_init_4 : decode cX8_init 4 = .ok (.aload_n 0, 1) := by decide +kernel
theorem d_X8_init_5 : decode cX8_init 5 = .ok (.new 9, 3) := by decide +kernel
theorem k_63 : (.classLink RX8 9 RX7 : Cond) ∈ cu_G := cu_mem 63 (by decide +kernel) (by decide +kernel)
theorem k_64 : (.instantiable RX7 2 : Cond) ∈ cu_G := cu_mem 64 (by decide +kernel) (by decide +kernel)
theorem k_44 : (.initialized RX7 : Cond) ∈ cu_G := cu_mem 44 (by decide +kernel) (by decide +kernel)
theorem d_X8_init_8 : decode cX8_init 8 = .ok (.dup, 1) := by decide +kernel
theorem d_X8_init_9 : decode cX8_init 9 = .ok (.invokespecial 11, 3) := by decide +kernel
theorem hd_X7_init : cu_hd yX7_init 0 := by decide +kernel
theorem k_67 : (.code yX7_init cX7_init 1 none : Cond) ∈ cu_G := cu_mem 67 (by decide +kernel) (by decide +kernel)
theorem k_66 : (.instanceMethod yX7_init : Cond) ∈ cu_G := cu_mem 66 (by decide +kernel) (by decide +kernel)
theorem d_X8_init_12 : decode cX8_init 12 = .ok (.putfield 12, 3) := by decide +kernel
theorem k_179 : (.fieldLink RX8 12 "CommonUnits" "text" "LCommonUnits$Text;" : Cond) ∈ cu_G := cu_mem 179 (by decide +kernel) (by decide +kernel)
theorem d_X8_init_15 : decode cX8_init 15 = .ok (.aload_n 0, 1) := by decide +kernel
theorem d_X8_init_16 : decode cX8_init 16 = .ok (.new 16, 3) := by decide +kernel
theorem k_78 : (.classLink RX8 16 RX3 : Cond) ∈ cu_G := cu_mem 78 (by decide +kernel) (by decide +kernel)
theorem k_79 : (.instantiable RX3 8 : Cond) ∈ cu_G := cu_mem 79 (by decide +kernel) (by decide +kernel)
theorem d_X8_init_19 : decode cX8_init 19 = .ok (.dup, 1) := by decide +kernel
theorem d_X8_init_20 : decode cX8_init 20 = .ok (.invokespecial 18, 3) := by decide +kernel
theorem hd_X3_init : cu_hd yX3_init 0 := by decide +kernel
theorem k_82 : (.code yX3_init cX3_init 1 none : Cond) ∈ cu_G := cu_mem 82 (by decide +kernel) (by decide +kernel)
theorem k_81 : (.instanceMethod yX3_init : Cond) ∈ cu_G := cu_mem 81 (by decide +kernel) (by decide +kernel)
theorem d_X8_init_23 : decode cX8_init 23 = .ok (.putfield 19, 3) := by decide +kernel
theorem k_180 : (.fieldLink RX8 19 "CommonUnits" "now" "LCommonUnits$Hoard;" : Cond) ∈ cu_G := cu_mem 180 (by decide +kernel) (by decide +kernel)
theorem d_X8_init_26 : decode cX8_init 26 = .ok (.aload_n 0, 1) := by decide +kernel
theorem d_X8_init_27 : decode cX8_init 27 = .ok (.new 16, 3) := by decide +kernel
theorem d_X8_init_30 : decode cX8_init 30 = .ok (.dup, 1) := by decide +kernel
theorem d_X8_init_31 : decode cX8_init 31 = .ok (.invokespecial 18, 3) := by decide +kernel
theorem d_X8_init_34 : decode cX8_init 34 = .ok (.putfield 23, 3) := by decide +kernel
theorem k_181 : (.fieldLink RX8 23 "CommonUnits" "spare" "LCommonUnits$Hoard;" : Cond) ∈ cu_G := cu_mem 181 (by decide +kernel) (by decide +kernel)
theorem d_X8_init_37 : decode cX8_init 37 = .ok (.aload_n 0, 1) := by decide +kernel
theorem d_X8_init_38 : decode cX8_init 38 = .ok (.new 26, 3) := by decide +kernel
theorem k_121 : (.classLink RX8 26 RX0 : Cond) ∈ cu_G := cu_mem 121 (by decide +kernel) (by decide +kernel)
theorem k_122 : (.instantiable RX0 5 : Cond) ∈ cu_G := cu_mem 122 (by decide +kernel) (by decide +kernel)
theorem k_46 : (.initialized RX0 : Cond) ∈ cu_G := cu_mem 46 (by decide +kernel) (by decide +kernel)
theorem d_X8_init_41 : decode cX8_init 41 = .ok (.dup, 1) := by decide +kernel
theorem d_X8_init_42 : decode cX8_init 42 = .ok (.invokespecial 28, 3) := by decide +kernel
theorem hd_X0_init : cu_hd yX0_init 0 := by decide +kernel
theorem k_125 : (.code yX0_init cX0_init 1 none : Cond) ∈ cu_G := cu_mem 125 (by decide +kernel) (by decide +kernel)
theorem k_124 : (.instanceMethod yX0_init : Cond) ∈ cu_G := cu_mem 124 (by decide +kernel) (by decide +kernel)
theorem d_X8_init_45 : decode cX8_init 45 = .ok (.putfield 29, 3) := by decide +kernel
theorem k_182 : (.fieldLink RX8 29 "CommonUnits" "acts" "LCommonUnits$Acts;" : Cond) ∈ cu_G := cu_mem 182 (by decide +kernel) (by decide +kernel)
theorem d_X8_init_48 : decode cX8_init 48 = .ok (.aload_n 0, 1) := by decide +kernel
theorem d_X8_init_49 : decode cX8_init 49 = .ok (.new 33, 3) := by decide +kernel
theorem k_144 : (.classLink RX8 33 RX1 : Cond) ∈ cu_G := cu_mem 144 (by decide +kernel) (by decide +kernel)
theorem k_145 : (.instantiable RX1 3 : Cond) ∈ cu_G := cu_mem 145 (by decide +kernel) (by decide +kernel)
theorem k_47 : (.initialized RX1 : Cond) ∈ cu_G := cu_mem 47 (by decide +kernel) (by decide +kernel)
theorem d_X8_init_52 : decode cX8_init 52 = .ok (.dup, 1) := by decide +kernel
theorem d_X8_init_53 : decode cX8_init 53 = .ok (.invokespecial 35, 3) := by decide +kernel
theorem hd_X1_init : cu_hd yX1_init 0 := by decide +kernel
theorem k_148 : (.code yX1_init cX1_init 1 none : Cond) ∈ cu_G := cu_mem 148 (by decide +kernel) (by decide +kernel)
theorem k_147 : (.instanceMethod yX1_init : Cond) ∈ cu_G := cu_mem 147 (by decide +kernel) (by decide +kernel)
theorem d_X8_init_56 : decode cX8_init 56 = .ok (.putfield 36, 3) := by decide +kernel
theorem k_183 : (.fieldLink RX8 36 "CommonUnits" "crowd" "LCommonUnits$Crowd;" : Cond) ∈ cu_G := cu_mem 183 (by decide +kernel) (by decide +kernel)
theorem d_X8_init_59 : decode cX8_init 59 = .ok (.aload_n 0, 1) := by decide +kernel
theorem d_X8_init_60 : decode cX8_init 60 = .ok (.new 40, 3) := by decide +kernel
theorem k_160 : (.classLink RX8 40 RX4 : Cond) ∈ cu_G := cu_mem 160 (by decide +kernel) (by decide +kernel)
theorem k_161 : (.instantiable RX4 3 : Cond) ∈ cu_G := cu_mem 161 (by decide +kernel) (by decide +kernel)
theorem k_48 : (.initialized RX4 : Cond) ∈ cu_G := cu_mem 48 (by decide +kernel) (by decide +kernel)
theorem d_X8_init_63 : decode cX8_init 63 = .ok (.dup, 1) := by decide +kernel
theorem d_X8_init_64 : decode cX8_init 64 = .ok (.invokespecial 42, 3) := by decide +kernel
theorem hd_X4_init : cu_hd yX4_init 0 := by decide +kernel
theorem k_164 : (.code yX4_init cX4_init 1 none : Cond) ∈ cu_G := cu_mem 164 (by decide +kernel) (by decide +kernel)
theorem k_163 : (.instanceMethod yX4_init : Cond) ∈ cu_G := cu_mem 163 (by decide +kernel) (by decide +kernel)
theorem d_X8_init_67 : decode cX8_init 67 = .ok (.putfield 43, 3) := by decide +kernel
theorem k_184 : (.fieldLink RX8 43 "CommonUnits" "sightings" "LCommonUnits$Sightings;" : Cond) ∈ cu_G := cu_mem 184 (by decide +kernel) (by decide +kernel)
theorem d_X8_init_70 : decode cX8_init 70 = .ok (.aload_n 0, 1) := by decide +kernel
theorem d_X8_init_71 : decode cX8_init 71 = .ok (.iconst 2, 1) := by decide +kernel
theorem d_X8_init_72 : decode cX8_init 72 = .ok (.anewarray 16, 3) := by decide +kernel
theorem d_X8_init_75 : decode cX8_init 75 = .ok (.putfield 47, 3) := by decide +kernel
theorem k_185 : (.fieldLink RX8 47 "CommonUnits" "slots" "[LCommonUnits$Hoard;" : Cond) ∈ cu_G := cu_mem 185 (by decide +kernel) (by decide +kernel)
theorem d_X8_init_78 : decode cX8_init 78 = .ok (.aload_n 0, 1) := by decide +kernel
theorem d_X8_init_79 : decode cX8_init 79 = .ok (.iconst 2, 1) := by decide +kernel
theorem d_X8_init_80 : decode cX8_init 80 = .ok (.newarray .boolean, 2) := by decide +kernel
theorem d_X8_init_82 : decode cX8_init 82 = .ok (.putfield 51, 3) := by decide +kernel
theorem k_186 : (.fieldLink RX8 51 "CommonUnits" "filled" "[Z" : Cond) ∈ cu_G := cu_mem 186 (by decide +kernel) (by decide +kernel)
theorem d_X8_init_85 : decode cX8_init 85 = .ok (.iconst 0, 1) := by decide +kernel
theorem d_X8_init_86 : decode cX8_init 86 = .ok (.istore_n 1, 1) := by decide +kernel
theorem d_X8_init_87 : decode cX8_init 87 = .ok (.iload_n 1, 1) := by decide +kernel
theorem d_X8_init_88 : decode cX8_init 88 = .ok (.iconst 2, 1) := by decide +kernel
theorem d_X8_init_89 : decode cX8_init 89 = .ok (.if_icmp .ge 22, 3) := by decide +kernel
theorem d_X8_init_92 : decode cX8_init 92 = .ok (.aload_n 0, 1) := by decide +kernel
theorem d_X8_init_93 : decode cX8_init 93 = .ok (.getfield 47, 3) := by decide +kernel
theorem d_X8_init_96 : decode cX8_init 96 = .ok (.iload_n 1, 1) := by decide +kernel
theorem d_X8_init_97 : decode cX8_init 97 = .ok (.new 16, 3) := by decide +kernel
theorem d_X8_init_100 : decode cX8_init 100 = .ok (.dup, 1) := by decide +kernel
theorem d_X8_init_101 : decode cX8_init 101 = .ok (.invokespecial 18, 3) := by decide +kernel
theorem d_X8_init_104 : decode cX8_init 104 = .ok (.aastore, 1) := by decide +kernel
theorem d_X8_init_105 : decode cX8_init 105 = .ok (.iinc 1 1, 3) := by decide +kernel
theorem d_X8_init_108 : decode cX8_init 108 = .ok (.goto (-21), 3) := by decide +kernel
theorem d_X8_init_111 : decode cX8_init 111 = .ok (.return_, 1) := by decide +kernel
set_option maxHeartbeats 4000000 in
set_option maxRecDepth 100000 in
theorem c_X3_init (l : Launch) (D : va_G) (cI cZ cQ : ClassId) (h : Nat) : cu_V l D (cu_TY cI cZ cQ) yX3_init cX3_init 1 1 12 4 39 [.ref h] [(h, .inr (2, [.null, .null, .null, .null, .int 0, .int 0, .int 0, .int 0]))] (fun ww => ∃ w : Nat, ∃ y : Nat, ∃ a : Nat, ∃ u : Nat, ww = [(h, .inr (2, [.ref w, .ref y, .ref a, .ref u, .int 0, .int 0, .int 1, .int 0])), (w, .inl (cI, 12, .inl (fun _ => 0))), (y, .inl (cI, 12, .inl (fun _ => 0))), (a, .inl (cI, 12, .inl (fun _ => 0))), (u, .inl (cI, 3, .inl (fun _ => 0)))]) := by
  refine cu_V.intro (by decide) (Nat.le_of_ble_eq_true rfl) ?_
  intro p e s m args below meth c Q ls A S hin hret hP hD hS hA hK hl
  obtain ⟨hx, hb, hml, hown, hg⟩ := S
  have hown : s.vm.findClass RX3 = some m.cls := hown
  have hin : meth.name = "<init>" := hin
  have hl : lv_has ls 1 [(0, .ref h)] := hl
  refine lv_aload_n hx hb d_X3_init_0 rfl (lv_at hl 0 rfl) ?_
  refine W.objInit hx hb hown (hg _ k_83) (hg _ k_61) (hg _ k_62) rfl (by rw [hml]; exact hl.1) rfl d_X3_init_1 (Nat.le_of_ble_eq_true rfl) (Nat.le_of_ble_eq_true rfl) ?_
  refine W.eq (g2 := F0 m 4 ls []) rfl ?_
  refine lv_aload_n hx hb d_X3_init_4 rfl (lv_at hl 0 rfl) ?_
  refine lv_bipush (v := 12) hx hb d_X3_init_5 (by decide) ?_
  refine cu_newI 12 hx hb (hg _ k_77) hK hP hD hS hA (by decide) (by decide +kernel) (Nat.le_of_ble_eq_true rfl) (Nat.le_of_ble_eq_true rfl) (Nat.le_of_ble_eq_true rfl) d_X3_init_7 (fun q_1 H hP hD hS => ?_)
  have hP : va_P D vwCl [(h, .inr (2, [.null, .null, .null, .null, .int 0, .int 0, .int 0, .int 0])), (q_1, .inl (cI, 12, .inl (fun _ => 0)))] H := hP
  have hD : va_D A [(h, .inr (2, [.null, .null, .null, .null, .int 0, .int 0, .int 0, .int 0])), (q_1, .inl (cI, 12, .inl (fun _ => 0)))] := hD
  refine W.widen (k := 1) (n := 12) (Nat.le_of_ble_eq_true rfl) (Nat.le_of_ble_eq_true rfl) ?_
  refine va_putF (D := D) (ci := 2) (v := .ref q_1) (ty := .array .int) (C := RX3) (T := TX3) (N := 8) hx hb hg cu_iX3 tyX3 tyX3_ok nmX3 hown hK.1 hP hD hS 0 rfl rfl 0 (by decide) (hg _ k_84) (fun _ h9 => h9) rfl hin rfl (by decide +kernel) rfl rfl (Nat.le_of_ble_eq_true rfl) d_X3_init_9 (fun H locs hP hD hS => ?_)
  have hP : va_P D vwCl [(h, .inr (2, [.ref q_1, .null, .null, .null, .int 0, .int 0, .int 0, .int 0])), (q_1, .inl (cI, 12, .inl (fun _ => 0)))] H := hP
  have hD : va_D A [(h, .inr (2, [.ref q_1, .null, .null, .null, .int 0, .int 0, .int 0, .int 0])), (q_1, .inl (cI, 12, .inl (fun _ => 0)))] := hD
  refine lv_aload_n hx hb d_X3_init_12 rfl (lv_at hl 0 rfl) ?_
  refine lv_bipush (v := 12) hx hb d_X3_init_13 (by decide) ?_
  refine cu_newI 12 hx hb (hg _ k_77) hK hP hD hS hA (by decide) (by decide +kernel) (Nat.le_of_ble_eq_true rfl) (Nat.le_of_ble_eq_true rfl) (Nat.le_of_ble_eq_true rfl) d_X3_init_15 (fun q_2 H hP hD hS => ?_)
  have hP : va_P D vwCl [(h, .inr (2, [.ref q_1, .null, .null, .null, .int 0, .int 0, .int 0, .int 0])), (q_1, .inl (cI, 12, .inl (fun _ => 0))), (q_2, .inl (cI, 12, .inl (fun _ => 0)))] H := hP
  have hD : va_D A [(h, .inr (2, [.ref q_1, .null, .null, .null, .int 0, .int 0, .int 0, .int 0])), (q_1, .inl (cI, 12, .inl (fun _ => 0))), (q_2, .inl (cI, 12, .inl (fun _ => 0)))] := hD
  refine W.widen (k := 2) (n := 24) (Nat.le_of_ble_eq_true rfl) (Nat.le_of_ble_eq_true rfl) ?_
  refine va_putF (D := D) (ci := 2) (v := .ref q_2) (ty := .array .int) (C := RX3) (T := TX3) (N := 8) hx hb hg cu_iX3 tyX3 tyX3_ok nmX3 hown hK.1 hP hD hS 0 rfl rfl 1 (by decide) (hg _ k_87) (fun _ h9 => h9) rfl hin rfl (by decide +kernel) rfl rfl (Nat.le_of_ble_eq_true rfl) d_X3_init_17 (fun H locs hP hD hS => ?_)
  have hP : va_P D vwCl [(h, .inr (2, [.ref q_1, .ref q_2, .null, .null, .int 0, .int 0, .int 0, .int 0])), (q_1, .inl (cI, 12, .inl (fun _ => 0))), (q_2, .inl (cI, 12, .inl (fun _ => 0)))] H := hP
  have hD : va_D A [(h, .inr (2, [.ref q_1, .ref q_2, .null, .null, .int 0, .int 0, .int 0, .int 0])), (q_1, .inl (cI, 12, .inl (fun _ => 0))), (q_2, .inl (cI, 12, .inl (fun _ => 0)))] := hD
  refine lv_aload_n hx hb d_X3_init_20 rfl (lv_at hl 0 rfl) ?_
  refine lv_bipush (v := 12) hx hb d_X3_init_21 (by decide) ?_
  refine cu_newI 12 hx hb (hg _ k_77) hK hP hD hS hA (by decide) (by decide +kernel) (Nat.le_of_ble_eq_true rfl) (Nat.le_of_ble_eq_true rfl) (Nat.le_of_ble_eq_true rfl) d_X3_init_23 (fun q_3 H hP hD hS => ?_)
  have hP : va_P D vwCl [(h, .inr (2, [.ref q_1, .ref q_2, .null, .null, .int 0, .int 0, .int 0, .int 0])), (q_1, .inl (cI, 12, .inl (fun _ => 0))), (q_2, .inl (cI, 12, .inl (fun _ => 0))), (q_3, .inl (cI, 12, .inl (fun _ => 0)))] H := hP
  have hD : va_D A [(h, .inr (2, [.ref q_1, .ref q_2, .null, .null, .int 0, .int 0, .int 0, .int 0])), (q_1, .inl (cI, 12, .inl (fun _ => 0))), (q_2, .inl (cI, 12, .inl (fun _ => 0))), (q_3, .inl (cI, 12, .inl (fun _ => 0)))] := hD
  refine W.widen (k := 3) (n := 36) (Nat.le_of_ble_eq_true rfl) (Nat.le_of_ble_eq_true rfl) ?_
  refine va_putF (D := D) (ci := 2) (v := .ref q_3) (ty := .array .int) (C := RX3) (T := TX3) (N := 8) hx hb hg cu_iX3 tyX3 tyX3_ok nmX3 hown hK.1 hP hD hS 0 rfl rfl 2 (by decide) (hg _ k_89) (fun _ h9 => h9) rfl hin rfl (by decide +kernel) rfl rfl (Nat.le_of_ble_eq_true rfl) d_X3_init_25 (fun H locs hP hD hS => ?_)
  have hP : va_P D vwCl [(h, .inr (2, [.ref q_1, .ref q_2, .ref q_3, .null, .int 0, .int 0, .int 0, .int 0])), (q_1, .inl (cI, 12, .inl (fun _ => 0))), (q_2, .inl (cI, 12, .inl (fun _ => 0))), (q_3, .inl (cI, 12, .inl (fun _ => 0)))] H := hP
  have hD : va_D A [(h, .inr (2, [.ref q_1, .ref q_2, .ref q_3, .null, .int 0, .int 0, .int 0, .int 0])), (q_1, .inl (cI, 12, .inl (fun _ => 0))), (q_2, .inl (cI, 12, .inl (fun _ => 0))), (q_3, .inl (cI, 12, .inl (fun _ => 0)))] := hD
  refine lv_aload_n hx hb d_X3_init_28 rfl (lv_at hl 0 rfl) ?_
  refine lv_iconst (v := 3) hx hb d_X3_init_29 (by decide) ?_
  refine cu_newI 3 hx hb (hg _ k_77) hK hP hD hS hA (by decide) (by decide +kernel) (Nat.le_of_ble_eq_true rfl) (Nat.le_of_ble_eq_true rfl) (Nat.le_of_ble_eq_true rfl) d_X3_init_30 (fun q_4 H hP hD hS => ?_)
  have hP : va_P D vwCl [(h, .inr (2, [.ref q_1, .ref q_2, .ref q_3, .null, .int 0, .int 0, .int 0, .int 0])), (q_1, .inl (cI, 12, .inl (fun _ => 0))), (q_2, .inl (cI, 12, .inl (fun _ => 0))), (q_3, .inl (cI, 12, .inl (fun _ => 0))), (q_4, .inl (cI, 3, .inl (fun _ => 0)))] H := hP
  have hD : va_D A [(h, .inr (2, [.ref q_1, .ref q_2, .ref q_3, .null, .int 0, .int 0, .int 0, .int 0])), (q_1, .inl (cI, 12, .inl (fun _ => 0))), (q_2, .inl (cI, 12, .inl (fun _ => 0))), (q_3, .inl (cI, 12, .inl (fun _ => 0))), (q_4, .inl (cI, 3, .inl (fun _ => 0)))] := hD
  refine W.widen (k := 4) (n := 39) (Nat.le_of_ble_eq_true rfl) (Nat.le_of_ble_eq_true rfl) ?_
  refine va_putF (D := D) (ci := 2) (v := .ref q_4) (ty := .array .int) (C := RX3) (T := TX3) (N := 8) hx hb hg cu_iX3 tyX3 tyX3_ok nmX3 hown hK.1 hP hD hS 0 rfl rfl 3 (by decide) (hg _ k_92) (fun _ h9 => h9) rfl hin rfl (by decide +kernel) rfl rfl (Nat.le_of_ble_eq_true rfl) d_X3_init_32 (fun H locs hP hD hS => ?_)
  have hP : va_P D vwCl [(h, .inr (2, [.ref q_1, .ref q_2, .ref q_3, .ref q_4, .int 0, .int 0, .int 0, .int 0])), (q_1, .inl (cI, 12, .inl (fun _ => 0))), (q_2, .inl (cI, 12, .inl (fun _ => 0))), (q_3, .inl (cI, 12, .inl (fun _ => 0))), (q_4, .inl (cI, 3, .inl (fun _ => 0)))] H := hP
  have hD : va_D A [(h, .inr (2, [.ref q_1, .ref q_2, .ref q_3, .ref q_4, .int 0, .int 0, .int 0, .int 0])), (q_1, .inl (cI, 12, .inl (fun _ => 0))), (q_2, .inl (cI, 12, .inl (fun _ => 0))), (q_3, .inl (cI, 12, .inl (fun _ => 0))), (q_4, .inl (cI, 3, .inl (fun _ => 0)))] := hD
  refine lv_aload_n hx hb d_X3_init_35 rfl (lv_at hl 0 rfl) ?_
  refine lv_iconst (v := 1) hx hb d_X3_init_36 (by decide) ?_
  refine va_put (D := D) (ci := 2) (v := .int 1) (ty := .int) (C := RX3) (T := TX3) (N := 8) hx hb hg cu_iX3 tyX3 tyX3_ok nmX3 hown hK.1 hP hD hS 0 rfl rfl 6 (by decide) (hg _ k_100) (fun _ h9 => h9) rfl (by decide +kernel) rfl rfl (Nat.le_of_ble_eq_true rfl) d_X3_init_37 (fun H locs hP hD hS => ?_)
  have hP : va_P D vwCl [(h, .inr (2, [.ref q_1, .ref q_2, .ref q_3, .ref q_4, .int 0, .int 0, .int 1, .int 0])), (q_1, .inl (cI, 12, .inl (fun _ => 0))), (q_2, .inl (cI, 12, .inl (fun _ => 0))), (q_3, .inl (cI, 12, .inl (fun _ => 0))), (q_4, .inl (cI, 3, .inl (fun _ => 0)))] H := hP
  have hD : va_D A [(h, .inr (2, [.ref q_1, .ref q_2, .ref q_3, .ref q_4, .int 0, .int 0, .int 1, .int 0])), (q_1, .inl (cI, 12, .inl (fun _ => 0))), (q_2, .inl (cI, 12, .inl (fun _ => 0))), (q_3, .inl (cI, 12, .inl (fun _ => 0))), (q_4, .inl (cI, 3, .inl (fun _ => 0)))] := hD
  exact hret _ _ _ _ [(h, .inr (2, [.ref q_1, .ref q_2, .ref q_3, .ref q_4, .int 0, .int 0, .int 1, .int 0])), (q_1, .inl (cI, 12, .inl (fun _ => 0))), (q_2, .inl (cI, 12, .inl (fun _ => 0))), (q_3, .inl (cI, 12, .inl (fun _ => 0))), (q_4, .inl (cI, 3, .inl (fun _ => 0)))] _ _ (hP.sub (ws' := [(h, .inr (2, [.ref q_1, .ref q_2, .ref q_3, .ref q_4, .int 0, .int 0, .int 1, .int 0])), (q_1, .inl (cI, 12, .inl (fun _ => 0))), (q_2, .inl (cI, 12, .inl (fun _ => 0))), (q_3, .inl (cI, 12, .inl (fun _ => 0))), (q_4, .inl (cI, 3, .inl (fun _ => 0)))]) [0, 1, 2, 3, 4] rfl) (hD.sub (ws' := [(h, .inr (2, [.ref q_1, .ref q_2, .ref q_3, .ref q_4, .int 0, .int 0, .int 1, .int 0])), (q_1, .inl (cI, 12, .inl (fun _ => 0))), (q_2, .inl (cI, 12, .inl (fun _ => 0))), (q_3, .inl (cI, 12, .inl (fun _ => 0))), (q_4, .inl (cI, 3, .inl (fun _ => 0)))]) [0, 1, 2, 3, 4] (by decide) rfl) hS (Nat.le_of_ble_eq_true rfl) (Nat.le_of_ble_eq_true rfl) d_X3_init_40 ⟨q_1, q_2, q_3, q_4, rfl⟩
set_option maxHeartbeats 4000000 in
set_option maxRecDepth 100000 in
theorem c_X7_init (l : Launch) (D : va_G) (cI cZ cQ : ClassId) (h : Nat) : cu_V l D (cu_TY cI cZ cQ) yX7_init cX7_init 1 1 12 1 130 [.ref h] [(h, .inr (5, [.null, .int 0]))] (fun ww => ∃ w : Nat, ww = [(h, .inr (5, [.ref w, .int 0])), (w, .inl (cI, 130, .inl (fun _ => 0)))]) := by
  refine cu_V.intro (by decide) (Nat.le_of_ble_eq_true rfl) ?_
  intro p e s m args below meth c Q ls A S hin hret hP hD hS hA hK hl
  obtain ⟨hx, hb, hml, hown, hg⟩ := S
  have hown : s.vm.findClass RX7 = some m.cls := hown
  have hin : meth.name = "<init>" := hin
  have hl : lv_has ls 1 [(0, .ref h)] := hl
  refine lv_aload_n hx hb d_X7_init_0 rfl (lv_at hl 0 rfl) ?_
  refine W.objInit hx hb hown (hg _ k_68) (hg _ k_61) (hg _ k_62) rfl (by rw [hml]; exact hl.1) rfl d_X7_init_1 (Nat.le_of_ble_eq_true rfl) (Nat.le_of_ble_eq_true rfl) ?_
  refine W.eq (g2 := F0 m 4 ls []) rfl ?_
  refine lv_aload_n hx hb d_X7_init_4 rfl (lv_at hl 0 rfl) ?_
  refine lv_sipush (v := 130) hx hb d_X7_init_5 (by decide) ?_
  refine cu_newI 130 hx hb (hg _ k_77) hK hP hD hS hA (by decide) (by decide +kernel) (Nat.le_of_ble_eq_true rfl) (Nat.le_of_ble_eq_true rfl) (Nat.le_of_ble_eq_true rfl) d_X7_init_8 (fun q_1 H hP hD hS => ?_)
  have hP : va_P D vwCl [(h, .inr (5, [.null, .int 0])), (q_1, .inl (cI, 130, .inl (fun _ => 0)))] H := hP
  have hD : va_D A [(h, .inr (5, [.null, .int 0])), (q_1, .inl (cI, 130, .inl (fun _ => 0)))] := hD
  refine W.widen (k := 1) (n := 130) (Nat.le_of_ble_eq_true rfl) (Nat.le_of_ble_eq_true rfl) ?_
  refine va_putF (D := D) (ci := 5) (v := .ref q_1) (ty := .array .int) (C := RX7) (T := TX7) (N := 2) hx hb hg cu_iX7 tyX7 tyX7_ok nmX7 hown hK.1 hP hD hS 0 rfl rfl 0 (by decide) (hg _ k_69) (fun _ h9 => h9) rfl hin rfl (by decide +kernel) rfl rfl (Nat.le_of_ble_eq_true rfl) d_X7_init_10 (fun H locs hP hD hS => ?_)
  have hP : va_P D vwCl [(h, .inr (5, [.ref q_1, .int 0])), (q_1, .inl (cI, 130, .inl (fun _ => 0)))] H := hP
  have hD : va_D A [(h, .inr (5, [.ref q_1, .int 0])), (q_1, .inl (cI, 130, .inl (fun _ => 0)))] := hD
  exact hret _ _ _ _ [(h, .inr (5, [.ref q_1, .int 0])), (q_1, .inl (cI, 130, .inl (fun _ => 0)))] _ _ (hP.sub (ws' := [(h, .inr (5, [.ref q_1, .int 0])), (q_1, .inl (cI, 130, .inl (fun _ => 0)))]) [0, 1] rfl) (hD.sub (ws' := [(h, .inr (5, [.ref q_1, .int 0])), (q_1, .inl (cI, 130, .inl (fun _ => 0)))]) [0, 1] (by decide) rfl) hS (Nat.le_of_ble_eq_true rfl) (Nat.le_of_ble_eq_true rfl) d_X7_init_13 ⟨q_1, rfl⟩
set_option maxHeartbeats 4000000 in
set_option maxRecDepth 100000 in
theorem c_X0_init (l : Launch) (D : va_G) (cI cZ cQ : ClassId) (h : Nat) : cu_V l D (cu_TY cI cZ cQ) yX0_init cX0_init 1 1 12 3 42 [.ref h] [(h, .inr (0, [.null, .null, .null, .int 0, .int 0]))] (fun ww => ∃ w : Nat, ∃ y : Nat, ∃ a : Nat, ww = [(h, .inr (0, [.ref w, .ref y, .ref a, .int 0, .int 0])), (w, .inl (cI, 14, .inl (fun _ => 0))), (y, .inl (cI, 14, .inl (fun _ => 0))), (a, .inl (cI, 14, .inl (fun _ => 0)))]) := by
  refine cu_V.intro (by decide) (Nat.le_of_ble_eq_true rfl) ?_
  intro p e s m args below meth c Q ls A S hin hret hP hD hS hA hK hl
  obtain ⟨hx, hb, hml, hown, hg⟩ := S
  have hown : s.vm.findClass RX0 = some m.cls := hown
  have hin : meth.name = "<init>" := hin
  have hl : lv_has ls 1 [(0, .ref h)] := hl
  refine lv_aload_n hx hb d_X0_init_0 rfl (lv_at hl 0 rfl) ?_
  refine W.objInit hx hb hown (hg _ k_126) (hg _ k_61) (hg _ k_62) rfl (by rw [hml]; exact hl.1) rfl d_X0_init_1 (Nat.le_of_ble_eq_true rfl) (Nat.le_of_ble_eq_true rfl) ?_
  refine W.eq (g2 := F0 m 4 ls []) rfl ?_
  refine lv_aload_n hx hb d_X0_init_4 rfl (lv_at hl 0 rfl) ?_
  refine lv_bipush (v := 14) hx hb d_X0_init_5 (by decide) ?_
  refine cu_newI 14 hx hb (hg _ k_77) hK hP hD hS hA (by decide) (by decide +kernel) (Nat.le_of_ble_eq_true rfl) (Nat.le_of_ble_eq_true rfl) (Nat.le_of_ble_eq_true rfl) d_X0_init_7 (fun q_1 H hP hD hS => ?_)
  have hP : va_P D vwCl [(h, .inr (0, [.null, .null, .null, .int 0, .int 0])), (q_1, .inl (cI, 14, .inl (fun _ => 0)))] H := hP
  have hD : va_D A [(h, .inr (0, [.null, .null, .null, .int 0, .int 0])), (q_1, .inl (cI, 14, .inl (fun _ => 0)))] := hD
  refine W.widen (k := 1) (n := 14) (Nat.le_of_ble_eq_true rfl) (Nat.le_of_ble_eq_true rfl) ?_
  refine va_putF (D := D) (ci := 0) (v := .ref q_1) (ty := .array .int) (C := RX0) (T := TX0) (N := 5) hx hb hg cu_iX0 tyX0 tyX0_ok nmX0 hown hK.1 hP hD hS 0 rfl rfl 0 (by decide) (hg _ k_127) (fun _ h9 => h9) rfl hin rfl (by decide +kernel) rfl rfl (Nat.le_of_ble_eq_true rfl) d_X0_init_9 (fun H locs hP hD hS => ?_)
  have hP : va_P D vwCl [(h, .inr (0, [.ref q_1, .null, .null, .int 0, .int 0])), (q_1, .inl (cI, 14, .inl (fun _ => 0)))] H := hP
  have hD : va_D A [(h, .inr (0, [.ref q_1, .null, .null, .int 0, .int 0])), (q_1, .inl (cI, 14, .inl (fun _ => 0)))] := hD
  refine lv_aload_n hx hb d_X0_init_12 rfl (lv_at hl 0 rfl) ?_
  refine lv_bipush (v := 14) hx hb d_X0_init_13 (by decide) ?_
  refine cu_newI 14 hx hb (hg _ k_77) hK hP hD hS hA (by decide) (by decide +kernel) (Nat.le_of_ble_eq_true rfl) (Nat.le_of_ble_eq_true rfl) (Nat.le_of_ble_eq_true rfl) d_X0_init_15 (fun q_2 H hP hD hS => ?_)
  have hP : va_P D vwCl [(h, .inr (0, [.ref q_1, .null, .null, .int 0, .int 0])), (q_1, .inl (cI, 14, .inl (fun _ => 0))), (q_2, .inl (cI, 14, .inl (fun _ => 0)))] H := hP
  have hD : va_D A [(h, .inr (0, [.ref q_1, .null, .null, .int 0, .int 0])), (q_1, .inl (cI, 14, .inl (fun _ => 0))), (q_2, .inl (cI, 14, .inl (fun _ => 0)))] := hD
  refine W.widen (k := 2) (n := 28) (Nat.le_of_ble_eq_true rfl) (Nat.le_of_ble_eq_true rfl) ?_
  refine va_putF (D := D) (ci := 0) (v := .ref q_2) (ty := .array .int) (C := RX0) (T := TX0) (N := 5) hx hb hg cu_iX0 tyX0 tyX0_ok nmX0 hown hK.1 hP hD hS 0 rfl rfl 1 (by decide) (hg _ k_128) (fun _ h9 => h9) rfl hin rfl (by decide +kernel) rfl rfl (Nat.le_of_ble_eq_true rfl) d_X0_init_17 (fun H locs hP hD hS => ?_)
  have hP : va_P D vwCl [(h, .inr (0, [.ref q_1, .ref q_2, .null, .int 0, .int 0])), (q_1, .inl (cI, 14, .inl (fun _ => 0))), (q_2, .inl (cI, 14, .inl (fun _ => 0)))] H := hP
  have hD : va_D A [(h, .inr (0, [.ref q_1, .ref q_2, .null, .int 0, .int 0])), (q_1, .inl (cI, 14, .inl (fun _ => 0))), (q_2, .inl (cI, 14, .inl (fun _ => 0)))] := hD
  refine lv_aload_n hx hb d_X0_init_20 rfl (lv_at hl 0 rfl) ?_
  refine lv_bipush (v := 14) hx hb d_X0_init_21 (by decide) ?_
  refine cu_newI 14 hx hb (hg _ k_77) hK hP hD hS hA (by decide) (by decide +kernel) (Nat.le_of_ble_eq_true rfl) (Nat.le_of_ble_eq_true rfl) (Nat.le_of_ble_eq_true rfl) d_X0_init_23 (fun q_3 H hP hD hS => ?_)
  have hP : va_P D vwCl [(h, .inr (0, [.ref q_1, .ref q_2, .null, .int 0, .int 0])), (q_1, .inl (cI, 14, .inl (fun _ => 0))), (q_2, .inl (cI, 14, .inl (fun _ => 0))), (q_3, .inl (cI, 14, .inl (fun _ => 0)))] H := hP
  have hD : va_D A [(h, .inr (0, [.ref q_1, .ref q_2, .null, .int 0, .int 0])), (q_1, .inl (cI, 14, .inl (fun _ => 0))), (q_2, .inl (cI, 14, .inl (fun _ => 0))), (q_3, .inl (cI, 14, .inl (fun _ => 0)))] := hD
  refine W.widen (k := 3) (n := 42) (Nat.le_of_ble_eq_true rfl) (Nat.le_of_ble_eq_true rfl) ?_
  refine va_putF (D := D) (ci := 0) (v := .ref q_3) (ty := .array .int) (C := RX0) (T := TX0) (N := 5) hx hb hg cu_iX0 tyX0 tyX0_ok nmX0 hown hK.1 hP hD hS 0 rfl rfl 2 (by decide) (hg _ k_129) (fun _ h9 => h9) rfl hin rfl (by decide +kernel) rfl rfl (Nat.le_of_ble_eq_true rfl) d_X0_init_25 (fun H locs hP hD hS => ?_)
  have hP : va_P D vwCl [(h, .inr (0, [.ref q_1, .ref q_2, .ref q_3, .int 0, .int 0])), (q_1, .inl (cI, 14, .inl (fun _ => 0))), (q_2, .inl (cI, 14, .inl (fun _ => 0))), (q_3, .inl (cI, 14, .inl (fun _ => 0)))] H := hP
  have hD : va_D A [(h, .inr (0, [.ref q_1, .ref q_2, .ref q_3, .int 0, .int 0])), (q_1, .inl (cI, 14, .inl (fun _ => 0))), (q_2, .inl (cI, 14, .inl (fun _ => 0))), (q_3, .inl (cI, 14, .inl (fun _ => 0)))] := hD
  exact hret _ _ _ _ [(h, .inr (0, [.ref q_1, .ref q_2, .ref q_3, .int 0, .int 0])), (q_1, .inl (cI, 14, .inl (fun _ => 0))), (q_2, .inl (cI, 14, .inl (fun _ => 0))), (q_3, .inl (cI, 14, .inl (fun _ => 0)))] _ _ (hP.sub (ws' := [(h, .inr (0, [.ref q_1, .ref q_2, .ref q_3, .int 0, .int 0])), (q_1, .inl (cI, 14, .inl (fun _ => 0))), (q_2, .inl (cI, 14, .inl (fun _ => 0))), (q_3, .inl (cI, 14, .inl (fun _ => 0)))]) [0, 1, 2, 3] rfl) (hD.sub (ws' := [(h, .inr (0, [.ref q_1, .ref q_2, .ref q_3, .int 0, .int 0])), (q_1, .inl (cI, 14, .inl (fun _ => 0))), (q_2, .inl (cI, 14, .inl (fun _ => 0))), (q_3, .inl (cI, 14, .inl (fun _ => 0)))]) [0, 1, 2, 3] (by decide) rfl) hS (Nat.le_of_ble_eq_true rfl) (Nat.le_of_ble_eq_true rfl) d_X0_init_28 ⟨q_1, q_2, q_3, rfl⟩
set_option maxHeartbeats 4000000 in
set_option maxRecDepth 100000 in
theorem c_X1_init (l : Launch) (D : va_G) (cI cZ cQ : ClassId) (h : Nat) : cu_V l D (cu_TY cI cZ cQ) yX1_init cX1_init 1 1 12 1 256 [.ref h] [(h, .inr (1, [.null, .int 0, .int 0]))] (fun ww => ∃ w : Nat, ww = [(h, .inr (1, [.ref w, .int 0, .int 0])), (w, .inl (cI, 256, .inl (fun _ => 0)))]) := by
  refine cu_V.intro (by decide) (Nat.le_of_ble_eq_true rfl) ?_
  intro p e s m args below meth c Q ls A S hin hret hP hD hS hA hK hl
  obtain ⟨hx, hb, hml, hown, hg⟩ := S
  have hown : s.vm.findClass RX1 = some m.cls := hown
  have hin : meth.name = "<init>" := hin
  have hl : lv_has ls 1 [(0, .ref h)] := hl
  refine lv_aload_n hx hb d_X1_init_0 rfl (lv_at hl 0 rfl) ?_
  refine W.objInit hx hb hown (hg _ k_149) (hg _ k_61) (hg _ k_62) rfl (by rw [hml]; exact hl.1) rfl d_X1_init_1 (Nat.le_of_ble_eq_true rfl) (Nat.le_of_ble_eq_true rfl) ?_
  refine W.eq (g2 := F0 m 4 ls []) rfl ?_
  refine lv_aload_n hx hb d_X1_init_4 rfl (lv_at hl 0 rfl) ?_
  refine lv_sipush (v := 256) hx hb d_X1_init_5 (by decide) ?_
  refine cu_newI 256 hx hb (hg _ k_77) hK hP hD hS hA (by decide) (by decide +kernel) (Nat.le_of_ble_eq_true rfl) (Nat.le_of_ble_eq_true rfl) (Nat.le_of_ble_eq_true rfl) d_X1_init_8 (fun q_1 H hP hD hS => ?_)
  have hP : va_P D vwCl [(h, .inr (1, [.null, .int 0, .int 0])), (q_1, .inl (cI, 256, .inl (fun _ => 0)))] H := hP
  have hD : va_D A [(h, .inr (1, [.null, .int 0, .int 0])), (q_1, .inl (cI, 256, .inl (fun _ => 0)))] := hD
  refine W.widen (k := 1) (n := 256) (Nat.le_of_ble_eq_true rfl) (Nat.le_of_ble_eq_true rfl) ?_
  refine va_putF (D := D) (ci := 1) (v := .ref q_1) (ty := .array .int) (C := RX1) (T := TX1) (N := 3) hx hb hg cu_iX1 tyX1 tyX1_ok nmX1 hown hK.1 hP hD hS 0 rfl rfl 0 (by decide) (hg _ k_150) (fun _ h9 => h9) rfl hin rfl (by decide +kernel) rfl rfl (Nat.le_of_ble_eq_true rfl) d_X1_init_10 (fun H locs hP hD hS => ?_)
  have hP : va_P D vwCl [(h, .inr (1, [.ref q_1, .int 0, .int 0])), (q_1, .inl (cI, 256, .inl (fun _ => 0)))] H := hP
  have hD : va_D A [(h, .inr (1, [.ref q_1, .int 0, .int 0])), (q_1, .inl (cI, 256, .inl (fun _ => 0)))] := hD
  exact hret _ _ _ _ [(h, .inr (1, [.ref q_1, .int 0, .int 0])), (q_1, .inl (cI, 256, .inl (fun _ => 0)))] _ _ (hP.sub (ws' := [(h, .inr (1, [.ref q_1, .int 0, .int 0])), (q_1, .inl (cI, 256, .inl (fun _ => 0)))]) [0, 1] rfl) (hD.sub (ws' := [(h, .inr (1, [.ref q_1, .int 0, .int 0])), (q_1, .inl (cI, 256, .inl (fun _ => 0)))]) [0, 1] (by decide) rfl) hS (Nat.le_of_ble_eq_true rfl) (Nat.le_of_ble_eq_true rfl) d_X1_init_13 ⟨q_1, rfl⟩
set_option maxHeartbeats 4000000 in
set_option maxRecDepth 100000 in
theorem c_X4_init (l : Launch) (D : va_G) (cI cZ cQ : ClassId) (h : Nat) : cu_V l D (cu_TY cI cZ cQ) yX4_init cX4_init 1 1 12 2 12 [.ref h] [(h, .inr (3, [.null, .null, .int 0]))] (fun ww => ∃ w : Nat, ∃ y : Nat, ww = [(h, .inr (3, [.ref w, .ref y, .int 0]))]) := by
  refine cu_V.intro (by decide) (Nat.le_of_ble_eq_true rfl) ?_
  intro p e s m args below meth c Q ls A S hin hret hP hD hS hA hK hl
  obtain ⟨hx, hb, hml, hown, hg⟩ := S
  have hown : s.vm.findClass RX4 = some m.cls := hown
  have hin : meth.name = "<init>" := hin
  have hl : lv_has ls 1 [(0, .ref h)] := hl
  refine lv_aload_n hx hb d_X4_init_0 rfl (lv_at hl 0 rfl) ?_
  refine W.objInit hx hb hown (hg _ k_165) (hg _ k_61) (hg _ k_62) rfl (by rw [hml]; exact hl.1) rfl d_X4_init_1 (Nat.le_of_ble_eq_true rfl) (Nat.le_of_ble_eq_true rfl) ?_
  refine W.eq (g2 := F0 m 4 ls []) rfl ?_
  refine lv_aload_n hx hb d_X4_init_4 rfl (lv_at hl 0 rfl) ?_
  refine lv_bipush (v := 6) hx hb d_X4_init_5 (by decide) ?_
  refine cu_newI 6 hx hb (hg _ k_77) hK hP hD hS hA (by decide) (by decide +kernel) (Nat.le_of_ble_eq_true rfl) (Nat.le_of_ble_eq_true rfl) (Nat.le_of_ble_eq_true rfl) d_X4_init_7 (fun q_1 H hP hD hS => ?_)
  have hP : va_P D vwCl [(h, .inr (3, [.null, .null, .int 0])), (q_1, .inl (cI, 6, .inl (fun _ => 0)))] H := hP
  have hD : va_D A [(h, .inr (3, [.null, .null, .int 0])), (q_1, .inl (cI, 6, .inl (fun _ => 0)))] := hD
  refine W.widen (k := 1) (n := 6) (Nat.le_of_ble_eq_true rfl) (Nat.le_of_ble_eq_true rfl) ?_
  refine va_putF (D := D) (ci := 3) (v := .ref q_1) (ty := .array .int) (C := RX4) (T := TX4) (N := 3) hx hb hg cu_iX4 tyX4 tyX4_ok nmX4 hown hK.1 hP hD hS 0 rfl rfl 0 (by decide) (hg _ k_166) (fun _ h9 => h9) rfl hin rfl (by decide +kernel) rfl rfl (Nat.le_of_ble_eq_true rfl) d_X4_init_9 (fun H locs hP hD hS => ?_)
  have hP : va_P D vwCl [(h, .inr (3, [.ref q_1, .null, .int 0])), (q_1, .inl (cI, 6, .inl (fun _ => 0)))] H := hP
  have hD : va_D A [(h, .inr (3, [.ref q_1, .null, .int 0])), (q_1, .inl (cI, 6, .inl (fun _ => 0)))] := hD
  refine lv_aload_n hx hb d_X4_init_12 rfl (lv_at hl 0 rfl) ?_
  refine lv_bipush (v := 6) hx hb d_X4_init_13 (by decide) ?_
  refine cu_newZ 6 hx hb (hg _ k_177) hK hP hD hS hA (by decide) (by decide +kernel) (Nat.le_of_ble_eq_true rfl) (Nat.le_of_ble_eq_true rfl) (Nat.le_of_ble_eq_true rfl) d_X4_init_15 (fun q_2 H hP hD hS => ?_)
  have hP : va_P D vwCl [(h, .inr (3, [.ref q_1, .null, .int 0])), (q_1, .inl (cI, 6, .inl (fun _ => 0))), (q_2, .inl (cZ, 6, .inl (fun _ => 0)))] H := hP
  have hD : va_D A [(h, .inr (3, [.ref q_1, .null, .int 0])), (q_1, .inl (cI, 6, .inl (fun _ => 0))), (q_2, .inl (cZ, 6, .inl (fun _ => 0)))] := hD
  refine W.widen (k := 2) (n := 12) (Nat.le_of_ble_eq_true rfl) (Nat.le_of_ble_eq_true rfl) ?_
  refine va_putF (D := D) (ci := 3) (v := .ref q_2) (ty := .array .boolean) (C := RX4) (T := TX4) (N := 3) hx hb hg cu_iX4 tyX4 tyX4_ok nmX4 hown hK.1 hP hD hS 0 rfl rfl 1 (by decide) (hg _ k_167) (fun _ h9 => h9) rfl hin rfl (by decide +kernel) rfl rfl (Nat.le_of_ble_eq_true rfl) d_X4_init_17 (fun H locs hP hD hS => ?_)
  have hP : va_P D vwCl [(h, .inr (3, [.ref q_1, .ref q_2, .int 0])), (q_1, .inl (cI, 6, .inl (fun _ => 0))), (q_2, .inl (cZ, 6, .inl (fun _ => 0)))] H := hP
  have hD : va_D A [(h, .inr (3, [.ref q_1, .ref q_2, .int 0])), (q_1, .inl (cI, 6, .inl (fun _ => 0))), (q_2, .inl (cZ, 6, .inl (fun _ => 0)))] := hD
  exact hret _ _ _ _ [(h, .inr (3, [.ref q_1, .ref q_2, .int 0]))] _ _ (hP.sub (ws' := [(h, .inr (3, [.ref q_1, .ref q_2, .int 0]))]) [0] rfl) (hD.sub (ws' := [(h, .inr (3, [.ref q_1, .ref q_2, .int 0]))]) [0] (by decide) rfl) hS (Nat.le_of_ble_eq_true rfl) (Nat.le_of_ble_eq_true rfl) d_X4_init_20 ⟨q_1, q_2, rfl⟩
set_option maxHeartbeats 4000000 in
set_option maxRecDepth 100000 in
theorem c_X6_init (l : Launch) (D : va_G) (cI cZ cQ : ClassId) (h : Nat) : cu_V l D (cu_TY cI cZ cQ) yX6_init cX6_init 1 1 12 5 14023 [.ref h] [(h, .inr (4, [.null, .null, .null, .null, .null, .int 0, .int 0, .int 0, .int 0, .int 0, .int 0]))] (fun ww => ∃ w : Nat, ∃ y : Nat, ∃ a : Nat, ∃ u : Nat, ∃ v : Nat, ww = [(h, .inr (4, [.ref w, .ref y, .ref a, .ref u, .ref v, .int 1, .int 0, .int 0, .int 0, .int 0, .int 0])), (w, .inl (cI, 12, .inl (fun _ => 0))), (y, .inl (cI, 12, .inl (fun _ => 0))), (a, .inl (cI, 12000, .inl (fun _ => 0))), (u, .inl (cI, 1000, .inl (fun _ => 0))), (v, .inl (cI, 999, .inl (fun _ => 0)))]) := by
  refine cu_V.intro (by decide) (Nat.le_of_ble_eq_true rfl) ?_
  intro p e s m args below meth c Q ls A S hin hret hP hD hS hA hK hl
  obtain ⟨hx, hb, hml, hown, hg⟩ := S
  have hown : s.vm.findClass RX6 = some m.cls := hown
  have hin : meth.name = "<init>" := hin
  have hl : lv_has ls 1 [(0, .ref h)] := hl
  refine lv_aload_n hx hb d_X6_init_0 rfl (lv_at hl 0 rfl) ?_
  refine W.objInit hx hb hown (hg _ k_430) (hg _ k_61) (hg _ k_62) rfl (by rw [hml]; exact hl.1) rfl d_X6_init_1 (Nat.le_of_ble_eq_true rfl) (Nat.le_of_ble_eq_true rfl) ?_
  refine W.eq (g2 := F0 m 4 ls []) rfl ?_
  refine lv_aload_n hx hb d_X6_init_4 rfl (lv_at hl 0 rfl) ?_
  refine lv_bipush (v := 12) hx hb d_X6_init_5 (by decide) ?_
  refine cu_newI 12 hx hb (hg _ k_77) hK hP hD hS hA (by decide) (by decide +kernel) (Nat.le_of_ble_eq_true rfl) (Nat.le_of_ble_eq_true rfl) (Nat.le_of_ble_eq_true rfl) d_X6_init_7 (fun q_1 H hP hD hS => ?_)
  have hP : va_P D vwCl [(h, .inr (4, [.null, .null, .null, .null, .null, .int 0, .int 0, .int 0, .int 0, .int 0, .int 0])), (q_1, .inl (cI, 12, .inl (fun _ => 0)))] H := hP
  have hD : va_D A [(h, .inr (4, [.null, .null, .null, .null, .null, .int 0, .int 0, .int 0, .int 0, .int 0, .int 0])), (q_1, .inl (cI, 12, .inl (fun _ => 0)))] := hD
  refine W.widen (k := 1) (n := 12) (Nat.le_of_ble_eq_true rfl) (Nat.le_of_ble_eq_true rfl) ?_
  refine va_putF (D := D) (ci := 4) (v := .ref q_1) (ty := .array .int) (C := RX6) (T := TX6) (N := 11) hx hb hg cu_iX6 tyX6 tyX6_ok nmX6 hown hK.1 hP hD hS 0 rfl rfl 0 (by decide) (hg _ k_431) (fun _ h9 => h9) rfl hin rfl (by decide +kernel) rfl rfl (Nat.le_of_ble_eq_true rfl) d_X6_init_9 (fun H locs hP hD hS => ?_)
  have hP : va_P D vwCl [(h, .inr (4, [.ref q_1, .null, .null, .null, .null, .int 0, .int 0, .int 0, .int 0, .int 0, .int 0])), (q_1, .inl (cI, 12, .inl (fun _ => 0)))] H := hP
  have hD : va_D A [(h, .inr (4, [.ref q_1, .null, .null, .null, .null, .int 0, .int 0, .int 0, .int 0, .int 0, .int 0])), (q_1, .inl (cI, 12, .inl (fun _ => 0)))] := hD
  refine lv_aload_n hx hb d_X6_init_12 rfl (lv_at hl 0 rfl) ?_
  refine lv_bipush (v := 12) hx hb d_X6_init_13 (by decide) ?_
  refine cu_newI 12 hx hb (hg _ k_77) hK hP hD hS hA (by decide) (by decide +kernel) (Nat.le_of_ble_eq_true rfl) (Nat.le_of_ble_eq_true rfl) (Nat.le_of_ble_eq_true rfl) d_X6_init_15 (fun q_2 H hP hD hS => ?_)
  have hP : va_P D vwCl [(h, .inr (4, [.ref q_1, .null, .null, .null, .null, .int 0, .int 0, .int 0, .int 0, .int 0, .int 0])), (q_1, .inl (cI, 12, .inl (fun _ => 0))), (q_2, .inl (cI, 12, .inl (fun _ => 0)))] H := hP
  have hD : va_D A [(h, .inr (4, [.ref q_1, .null, .null, .null, .null, .int 0, .int 0, .int 0, .int 0, .int 0, .int 0])), (q_1, .inl (cI, 12, .inl (fun _ => 0))), (q_2, .inl (cI, 12, .inl (fun _ => 0)))] := hD
  refine W.widen (k := 2) (n := 24) (Nat.le_of_ble_eq_true rfl) (Nat.le_of_ble_eq_true rfl) ?_
  refine va_putF (D := D) (ci := 4) (v := .ref q_2) (ty := .array .int) (C := RX6) (T := TX6) (N := 11) hx hb hg cu_iX6 tyX6 tyX6_ok nmX6 hown hK.1 hP hD hS 0 rfl rfl 1 (by decide) (hg _ k_432) (fun _ h9 => h9) rfl hin rfl (by decide +kernel) rfl rfl (Nat.le_of_ble_eq_true rfl) d_X6_init_17 (fun H locs hP hD hS => ?_)
  have hP : va_P D vwCl [(h, .inr (4, [.ref q_1, .ref q_2, .null, .null, .null, .int 0, .int 0, .int 0, .int 0, .int 0, .int 0])), (q_1, .inl (cI, 12, .inl (fun _ => 0))), (q_2, .inl (cI, 12, .inl (fun _ => 0)))] H := hP
  have hD : va_D A [(h, .inr (4, [.ref q_1, .ref q_2, .null, .null, .null, .int 0, .int 0, .int 0, .int 0, .int 0, .int 0])), (q_1, .inl (cI, 12, .inl (fun _ => 0))), (q_2, .inl (cI, 12, .inl (fun _ => 0)))] := hD
  refine lv_aload_n hx hb d_X6_init_20 rfl (lv_at hl 0 rfl) ?_
  refine lv_sipush (v := 12000) hx hb d_X6_init_21 (by decide) ?_
  refine cu_newI 12000 hx hb (hg _ k_77) hK hP hD hS hA (by decide) (by decide +kernel) (Nat.le_of_ble_eq_true rfl) (Nat.le_of_ble_eq_true rfl) (Nat.le_of_ble_eq_true rfl) d_X6_init_24 (fun q_3 H hP hD hS => ?_)
  have hP : va_P D vwCl [(h, .inr (4, [.ref q_1, .ref q_2, .null, .null, .null, .int 0, .int 0, .int 0, .int 0, .int 0, .int 0])), (q_1, .inl (cI, 12, .inl (fun _ => 0))), (q_2, .inl (cI, 12, .inl (fun _ => 0))), (q_3, .inl (cI, 12000, .inl (fun _ => 0)))] H := hP
  have hD : va_D A [(h, .inr (4, [.ref q_1, .ref q_2, .null, .null, .null, .int 0, .int 0, .int 0, .int 0, .int 0, .int 0])), (q_1, .inl (cI, 12, .inl (fun _ => 0))), (q_2, .inl (cI, 12, .inl (fun _ => 0))), (q_3, .inl (cI, 12000, .inl (fun _ => 0)))] := hD
  refine W.widen (k := 3) (n := 12024) (Nat.le_of_ble_eq_true rfl) (Nat.le_of_ble_eq_true rfl) ?_
  refine va_putF (D := D) (ci := 4) (v := .ref q_3) (ty := .array .int) (C := RX6) (T := TX6) (N := 11) hx hb hg cu_iX6 tyX6 tyX6_ok nmX6 hown hK.1 hP hD hS 0 rfl rfl 2 (by decide) (hg _ k_433) (fun _ h9 => h9) rfl hin rfl (by decide +kernel) rfl rfl (Nat.le_of_ble_eq_true rfl) d_X6_init_26 (fun H locs hP hD hS => ?_)
  have hP : va_P D vwCl [(h, .inr (4, [.ref q_1, .ref q_2, .ref q_3, .null, .null, .int 0, .int 0, .int 0, .int 0, .int 0, .int 0])), (q_1, .inl (cI, 12, .inl (fun _ => 0))), (q_2, .inl (cI, 12, .inl (fun _ => 0))), (q_3, .inl (cI, 12000, .inl (fun _ => 0)))] H := hP
  have hD : va_D A [(h, .inr (4, [.ref q_1, .ref q_2, .ref q_3, .null, .null, .int 0, .int 0, .int 0, .int 0, .int 0, .int 0])), (q_1, .inl (cI, 12, .inl (fun _ => 0))), (q_2, .inl (cI, 12, .inl (fun _ => 0))), (q_3, .inl (cI, 12000, .inl (fun _ => 0)))] := hD
  refine lv_aload_n hx hb d_X6_init_29 rfl (lv_at hl 0 rfl) ?_
  refine lv_sipush (v := 1000) hx hb d_X6_init_30 (by decide) ?_
  refine cu_newI 1000 hx hb (hg _ k_77) hK hP hD hS hA (by decide) (by decide +kernel) (Nat.le_of_ble_eq_true rfl) (Nat.le_of_ble_eq_true rfl) (Nat.le_of_ble_eq_true rfl) d_X6_init_33 (fun q_4 H hP hD hS => ?_)
  have hP : va_P D vwCl [(h, .inr (4, [.ref q_1, .ref q_2, .ref q_3, .null, .null, .int 0, .int 0, .int 0, .int 0, .int 0, .int 0])), (q_1, .inl (cI, 12, .inl (fun _ => 0))), (q_2, .inl (cI, 12, .inl (fun _ => 0))), (q_3, .inl (cI, 12000, .inl (fun _ => 0))), (q_4, .inl (cI, 1000, .inl (fun _ => 0)))] H := hP
  have hD : va_D A [(h, .inr (4, [.ref q_1, .ref q_2, .ref q_3, .null, .null, .int 0, .int 0, .int 0, .int 0, .int 0, .int 0])), (q_1, .inl (cI, 12, .inl (fun _ => 0))), (q_2, .inl (cI, 12, .inl (fun _ => 0))), (q_3, .inl (cI, 12000, .inl (fun _ => 0))), (q_4, .inl (cI, 1000, .inl (fun _ => 0)))] := hD
  refine W.widen (k := 4) (n := 13024) (Nat.le_of_ble_eq_true rfl) (Nat.le_of_ble_eq_true rfl) ?_
  refine va_putF (D := D) (ci := 4) (v := .ref q_4) (ty := .array .int) (C := RX6) (T := TX6) (N := 11) hx hb hg cu_iX6 tyX6 tyX6_ok nmX6 hown hK.1 hP hD hS 0 rfl rfl 3 (by decide) (hg _ k_434) (fun _ h9 => h9) rfl hin rfl (by decide +kernel) rfl rfl (Nat.le_of_ble_eq_true rfl) d_X6_init_35 (fun H locs hP hD hS => ?_)
  have hP : va_P D vwCl [(h, .inr (4, [.ref q_1, .ref q_2, .ref q_3, .ref q_4, .null, .int 0, .int 0, .int 0, .int 0, .int 0, .int 0])), (q_1, .inl (cI, 12, .inl (fun _ => 0))), (q_2, .inl (cI, 12, .inl (fun _ => 0))), (q_3, .inl (cI, 12000, .inl (fun _ => 0))), (q_4, .inl (cI, 1000, .inl (fun _ => 0)))] H := hP
  have hD : va_D A [(h, .inr (4, [.ref q_1, .ref q_2, .ref q_3, .ref q_4, .null, .int 0, .int 0, .int 0, .int 0, .int 0, .int 0])), (q_1, .inl (cI, 12, .inl (fun _ => 0))), (q_2, .inl (cI, 12, .inl (fun _ => 0))), (q_3, .inl (cI, 12000, .inl (fun _ => 0))), (q_4, .inl (cI, 1000, .inl (fun _ => 0)))] := hD
  refine lv_aload_n hx hb d_X6_init_38 rfl (lv_at hl 0 rfl) ?_
  refine lv_sipush (v := 999) hx hb d_X6_init_39 (by decide) ?_
  refine cu_newI 999 hx hb (hg _ k_77) hK hP hD hS hA (by decide) (by decide +kernel) (Nat.le_of_ble_eq_true rfl) (Nat.le_of_ble_eq_true rfl) (Nat.le_of_ble_eq_true rfl) d_X6_init_42 (fun q_5 H hP hD hS => ?_)
  have hP : va_P D vwCl [(h, .inr (4, [.ref q_1, .ref q_2, .ref q_3, .ref q_4, .null, .int 0, .int 0, .int 0, .int 0, .int 0, .int 0])), (q_1, .inl (cI, 12, .inl (fun _ => 0))), (q_2, .inl (cI, 12, .inl (fun _ => 0))), (q_3, .inl (cI, 12000, .inl (fun _ => 0))), (q_4, .inl (cI, 1000, .inl (fun _ => 0))), (q_5, .inl (cI, 999, .inl (fun _ => 0)))] H := hP
  have hD : va_D A [(h, .inr (4, [.ref q_1, .ref q_2, .ref q_3, .ref q_4, .null, .int 0, .int 0, .int 0, .int 0, .int 0, .int 0])), (q_1, .inl (cI, 12, .inl (fun _ => 0))), (q_2, .inl (cI, 12, .inl (fun _ => 0))), (q_3, .inl (cI, 12000, .inl (fun _ => 0))), (q_4, .inl (cI, 1000, .inl (fun _ => 0))), (q_5, .inl (cI, 999, .inl (fun _ => 0)))] := hD
  refine W.widen (k := 5) (n := 14023) (Nat.le_of_ble_eq_true rfl) (Nat.le_of_ble_eq_true rfl) ?_
  refine va_putF (D := D) (ci := 4) (v := .ref q_5) (ty := .array .int) (C := RX6) (T := TX6) (N := 11) hx hb hg cu_iX6 tyX6 tyX6_ok nmX6 hown hK.1 hP hD hS 0 rfl rfl 4 (by decide) (hg _ k_435) (fun _ h9 => h9) rfl hin rfl (by decide +kernel) rfl rfl (Nat.le_of_ble_eq_true rfl) d_X6_init_44 (fun H locs hP hD hS => ?_)
  have hP : va_P D vwCl [(h, .inr (4, [.ref q_1, .ref q_2, .ref q_3, .ref q_4, .ref q_5, .int 0, .int 0, .int 0, .int 0, .int 0, .int 0])), (q_1, .inl (cI, 12, .inl (fun _ => 0))), (q_2, .inl (cI, 12, .inl (fun _ => 0))), (q_3, .inl (cI, 12000, .inl (fun _ => 0))), (q_4, .inl (cI, 1000, .inl (fun _ => 0))), (q_5, .inl (cI, 999, .inl (fun _ => 0)))] H := hP
  have hD : va_D A [(h, .inr (4, [.ref q_1, .ref q_2, .ref q_3, .ref q_4, .ref q_5, .int 0, .int 0, .int 0, .int 0, .int 0, .int 0])), (q_1, .inl (cI, 12, .inl (fun _ => 0))), (q_2, .inl (cI, 12, .inl (fun _ => 0))), (q_3, .inl (cI, 12000, .inl (fun _ => 0))), (q_4, .inl (cI, 1000, .inl (fun _ => 0))), (q_5, .inl (cI, 999, .inl (fun _ => 0)))] := hD
  refine lv_aload_n hx hb d_X6_init_47 rfl (lv_at hl 0 rfl) ?_
  refine lv_iconst (v := 1) hx hb d_X6_init_48 (by decide) ?_
  refine va_put (D := D) (ci := 4) (v := .int 1) (ty := .int) (C := RX6) (T := TX6) (N := 11) hx hb hg cu_iX6 tyX6 tyX6_ok nmX6 hown hK.1 hP hD hS 0 rfl rfl 5 (by decide) (hg _ k_436) (fun _ h9 => h9) rfl (by decide +kernel) rfl rfl (Nat.le_of_ble_eq_true rfl) d_X6_init_49 (fun H locs hP hD hS => ?_)
  have hP : va_P D vwCl [(h, .inr (4, [.ref q_1, .ref q_2, .ref q_3, .ref q_4, .ref q_5, .int 1, .int 0, .int 0, .int 0, .int 0, .int 0])), (q_1, .inl (cI, 12, .inl (fun _ => 0))), (q_2, .inl (cI, 12, .inl (fun _ => 0))), (q_3, .inl (cI, 12000, .inl (fun _ => 0))), (q_4, .inl (cI, 1000, .inl (fun _ => 0))), (q_5, .inl (cI, 999, .inl (fun _ => 0)))] H := hP
  have hD : va_D A [(h, .inr (4, [.ref q_1, .ref q_2, .ref q_3, .ref q_4, .ref q_5, .int 1, .int 0, .int 0, .int 0, .int 0, .int 0])), (q_1, .inl (cI, 12, .inl (fun _ => 0))), (q_2, .inl (cI, 12, .inl (fun _ => 0))), (q_3, .inl (cI, 12000, .inl (fun _ => 0))), (q_4, .inl (cI, 1000, .inl (fun _ => 0))), (q_5, .inl (cI, 999, .inl (fun _ => 0)))] := hD
  exact hret _ _ _ _ [(h, .inr (4, [.ref q_1, .ref q_2, .ref q_3, .ref q_4, .ref q_5, .int 1, .int 0, .int 0, .int 0, .int 0, .int 0])), (q_1, .inl (cI, 12, .inl (fun _ => 0))), (q_2, .inl (cI, 12, .inl (fun _ => 0))), (q_3, .inl (cI, 12000, .inl (fun _ => 0))), (q_4, .inl (cI, 1000, .inl (fun _ => 0))), (q_5, .inl (cI, 999, .inl (fun _ => 0)))] _ _ (hP.sub (ws' := [(h, .inr (4, [.ref q_1, .ref q_2, .ref q_3, .ref q_4, .ref q_5, .int 1, .int 0, .int 0, .int 0, .int 0, .int 0])), (q_1, .inl (cI, 12, .inl (fun _ => 0))), (q_2, .inl (cI, 12, .inl (fun _ => 0))), (q_3, .inl (cI, 12000, .inl (fun _ => 0))), (q_4, .inl (cI, 1000, .inl (fun _ => 0))), (q_5, .inl (cI, 999, .inl (fun _ => 0)))]) [0, 1, 2, 3, 4, 5] rfl) (hD.sub (ws' := [(h, .inr (4, [.ref q_1, .ref q_2, .ref q_3, .ref q_4, .ref q_5, .int 1, .int 0, .int 0, .int 0, .int 0, .int 0])), (q_1, .inl (cI, 12, .inl (fun _ => 0))), (q_2, .inl (cI, 12, .inl (fun _ => 0))), (q_3, .inl (cI, 12000, .inl (fun _ => 0))), (q_4, .inl (cI, 1000, .inl (fun _ => 0))), (q_5, .inl (cI, 999, .inl (fun _ => 0)))]) [0, 1, 2, 3, 4, 5] (by decide) rfl) hS (Nat.le_of_ble_eq_true rfl) (Nat.le_of_ble_eq_true rfl) d_X6_init_52 ⟨q_1, q_2, q_3, q_4, q_5, rfl⟩
set_option maxHeartbeats 4000000 in
set_option maxRecDepth 100000 in
theorem c_X8_init (l : Launch) (D : va_G) (cI cZ cQ : ClassId) (x : Nat) : cu_V l D (cu_TY cI cZ cQ) yX8_init cX8_init 2 2 32 33 645 [.ref x] [(x, .inr (6, [.null, .null, .null, .null, .null, .null, .null, .null, .null, .long 0]))] (fun ww => ∃ tx : Nat, ∃ nw : Nat, ∃ sp : Nat, ∃ ac : Nat, ∃ cr : Nat, ∃ sg : Nat, ∃ sl : Nat, ∃ fl : Nat, ∃ ts : Nat, ∃ n1 : Nat, ∃ n2 : Nat, ∃ n3 : Nat, ∃ n4 : Nat, ∃ p1 : Nat, ∃ p2 : Nat, ∃ p3 : Nat, ∃ p4 : Nat, ∃ k1 : Nat, ∃ k2 : Nat, ∃ k3 : Nat, ∃ vs : Nat, ∃ g1 : Nat, ∃ g2 : Nat, ∃ h0 : Nat, ∃ h1 : Nat, ∃ a1 : Nat, ∃ a2 : Nat, ∃ a3 : Nat, ∃ a4 : Nat, ∃ b1 : Nat, ∃ b2 : Nat, ∃ b3 : Nat, ∃ b4 : Nat, ww = [(x, .inr (6, [.ref tx, .ref nw, .ref sp, .ref ac, .ref cr, .ref sg, .ref sl, .ref fl, .null, .long 0])), (tx, .inr (5, [.ref ts, .int 0])), (ts, .inl (cI, 130, .inl (fun _ => 0))), (nw, .inr (2, [.ref n1, .ref n2, .ref n3, .ref n4, .int 0, .int 0, .int 1, .int 0])), (n1, .inl (cI, 12, .inl (fun _ => 0))), (n2, .inl (cI, 12, .inl (fun _ => 0))), (n3, .inl (cI, 12, .inl (fun _ => 0))), (n4, .inl (cI, 3, .inl (fun _ => 0))), (sp, .inr (2, [.ref p1, .ref p2, .ref p3, .ref p4, .int 0, .int 0, .int 1, .int 0])), (p1, .inl (cI, 12, .inl (fun _ => 0))), (p2, .inl (cI, 12, .inl (fun _ => 0))), (p3, .inl (cI, 12, .inl (fun _ => 0))), (p4, .inl (cI, 3, .inl (fun _ => 0))), (ac, .inr (0, [.ref k1, .ref k2, .ref k3, .int 0, .int 0])), (k1, .inl (cI, 14, .inl (fun _ => 0))), (k2, .inl (cI, 14, .inl (fun _ => 0))), (k3, .inl (cI, 14, .inl (fun _ => 0))), (cr, .inr (1, [.ref vs, .int 0, .int 0])), (vs, .inl (cI, 256, .inl (fun _ => 0))), (sg, .inr (3, [.ref g1, .ref g2, .int 0])), (sl, .inl (cQ, 2, .inr (.inr (.inr (.inr (va_up (va_up (fun _ => none) 0 (some h0)) 1 (some h1))))))), (h0, .inr (2, [.ref a1, .ref a2, .ref a3, .ref a4, .int 0, .int 0, .int 1, .int 0])), (a1, .inl (cI, 12, .inl (fun _ => 0))), (a2, .inl (cI, 12, .inl (fun _ => 0))), (a3, .inl (cI, 12, .inl (fun _ => 0))), (a4, .inl (cI, 3, .inl (fun _ => 0))), (h1, .inr (2, [.ref b1, .ref b2, .ref b3, .ref b4, .int 0, .int 0, .int 1, .int 0])), (b1, .inl (cI, 12, .inl (fun _ => 0))), (b2, .inl (cI, 12, .inl (fun _ => 0))), (b3, .inl (cI, 12, .inl (fun _ => 0))), (b4, .inl (cI, 3, .inl (fun _ => 0))), (fl, .inl (cZ, 2, .inl (fun _ => 0)))]) := by
  refine cu_V.intro (by decide) (Nat.le_of_ble_eq_true rfl) ?_
  intro p e s m args below meth c Q ls A S hin hret hP hD hS hA hK hl
  obtain ⟨hx, hb, hml, hown, hg⟩ := S
  have hown : s.vm.findClass RX8 = some m.cls := hown
  have hin : meth.name = "<init>" := hin
  have hl : lv_has ls 2 [(0, .ref x)] := hl
  refine lv_aload_n hx hb d_X8_init_0 rfl (lv_at hl 0 rfl) ?_
  refine W.objInit hx hb hown (hg _ k_60) (hg _ k_61) (hg _ k_62) rfl (by rw [hml]; exact hl.1) rfl d_X8_init_1 (Nat.le_of_ble_eq_true rfl) (Nat.le_of_ble_eq_true rfl) ?_
  refine W.eq (g2 := F0 m 4 ls []) rfl ?_
  refine lv_aload_n hx hb d_X8_init_4 rfl (lv_at hl 0 rfl) ?_
  refine va_new (ci := 5) (fs := [.null, .int 0]) (C := RX7) (T := TX7) (N := 2) hx hb hg cu_iX7 tyX7 tyX7_ok hown (hg _ k_63) (hg _ k_64) (hg _ k_44) hK.1 hP hD hS hA rfl (fun j hj => by rcases (show j = 0 ∨ j = 1 by omega) with rfl | rfl <;> rfl) (Nat.le_of_ble_eq_true rfl) (Nat.le_of_ble_eq_true rfl) d_X8_init_5 (fun q_1 H hP hD hS => ?_)
  have hP : va_P D vwCl [(x, .inr (6, [.null, .null, .null, .null, .null, .null, .null, .null, .null, .long 0])), (q_1, .inr (5, [.null, .int 0]))] H := hP
  have hD : va_D A [(x, .inr (6, [.null, .null, .null, .null, .null, .null, .null, .null, .null, .long 0])), (q_1, .inr (5, [.null, .int 0]))] := hD
  refine W.widen (k := 1) (n := 2) (Nat.le_of_ble_eq_true rfl) (Nat.le_of_ble_eq_true rfl) ?_
  refine lv_dup hx hb d_X8_init_8 rfl ?_
  refine cu_NV (wc := [(q_1, .inr (5, [.null, .int 0]))]) (wr := [(x, .inr (6, [.null, .null, .null, .null, .null, .null, .null, .null, .null, .long 0]))]) (rest := [.ref q_1, .ref x]) [] ⟨hx, hb, hml, hown, hg⟩ (c_X7_init l D cI cZ cQ q_1) hd_X7_init k_67 hK.2.2.1 k_66 k_44 rfl ⟨Nat.le_of_ble_eq_true rfl, Nat.le_of_ble_eq_true rfl⟩ ⟨Nat.le_of_ble_eq_true rfl, Nat.le_of_ble_eq_true rfl⟩ hP hD hS hA hK [1] [0] rfl rfl (by decide) (by decide) (by decide) rfl hl.1 rfl (Nat.le_of_ble_eq_true rfl) d_X8_init_9 (fun w_4 H locs hw_3 hP hD hS => ?_)
  obtain ⟨w_5, rfl⟩ := hw_3
  have hP : va_P D vwCl [(x, .inr (6, [.null, .null, .null, .null, .null, .null, .null, .null, .null, .long 0])), (q_1, .inr (5, [.ref w_5, .int 0])), (w_5, .inl (cI, 130, .inl (fun _ => 0)))] H := hP
  have hD : va_D A [(x, .inr (6, [.null, .null, .null, .null, .null, .null, .null, .null, .null, .long 0])), (q_1, .inr (5, [.ref w_5, .int 0])), (w_5, .inl (cI, 130, .inl (fun _ => 0)))] := hD
  refine W.widen (k := 2) (n := 132) (Nat.le_of_ble_eq_true rfl) (Nat.le_of_ble_eq_true rfl) ?_
  refine va_putF (D := D) (ci := 6) (v := .ref q_1) (ty := .object "CommonUnits$Text") (C := RX8) (T := TX8) (N := 10) hx hb hg cu_iX8 tyX8 tyX8_ok nmX8 hown hK.1 hP hD hS 0 rfl rfl 0 (by decide) (hg _ k_179) (fun _ h9 => h9) rfl hin rfl (by decide +kernel) rfl rfl (Nat.le_of_ble_eq_true rfl) d_X8_init_12 (fun H locs hP hD hS => ?_)
  have hP : va_P D vwCl [(x, .inr (6, [.ref q_1, .null, .null, .null, .null, .null, .null, .null, .null, .long 0])), (q_1, .inr (5, [.ref w_5, .int 0])), (w_5, .inl (cI, 130, .inl (fun _ => 0)))] H := hP
  have hD : va_D A [(x, .inr (6, [.ref q_1, .null, .null, .null, .null, .null, .null, .null, .null, .long 0])), (q_1, .inr (5, [.ref w_5, .int 0])), (w_5, .inl (cI, 130, .inl (fun _ => 0)))] := hD
  refine lv_aload_n hx hb d_X8_init_15 rfl (lv_at hl 0 rfl) ?_
  refine va_new (ci := 2) (fs := [.null, .null, .null, .null, .int 0, .int 0, .int 0, .int 0]) (C := RX3) (T := TX3) (N := 8) hx hb hg cu_iX3 tyX3 tyX3_ok hown (hg _ k_78) (hg _ k_79) (hg _ k_45) hK.1 hP hD hS hA rfl (fun j hj => by rcases (show j = 0 ∨ j = 1 ∨ j = 2 ∨ j = 3 ∨ j = 4 ∨ j = 5 ∨ j = 6 ∨ j = 7 by omega) with rfl | rfl | rfl | rfl | rfl | rfl | rfl | rfl <;> rfl) (Nat.le_of_ble_eq_true rfl) (Nat.le_of_ble_eq_true rfl) d_X8_init_16 (fun q_6 H hP hD hS => ?_)
  have hP : va_P D vwCl [(x, .inr (6, [.ref q_1, .null, .null, .null, .null, .null, .null, .null, .null, .long 0])), (q_1, .inr (5, [.ref w_5, .int 0])), (w_5, .inl (cI, 130, .inl (fun _ => 0))), (q_6, .inr (2, [.null, .null, .null, .null, .int 0, .int 0, .int 0, .int 0]))] H := hP
  have hD : va_D A [(x, .inr (6, [.ref q_1, .null, .null, .null, .null, .null, .null, .null, .null, .long 0])), (q_1, .inr (5, [.ref w_5, .int 0])), (w_5, .inl (cI, 130, .inl (fun _ => 0))), (q_6, .inr (2, [.null, .null, .null, .null, .int 0, .int 0, .int 0, .int 0]))] := hD
  refine W.widen (k := 3) (n := 140) (Nat.le_of_ble_eq_true rfl) (Nat.le_of_ble_eq_true rfl) ?_
  refine lv_dup hx hb d_X8_init_19 rfl ?_
  refine cu_NV (wc := [(q_6, .inr (2, [.null, .null, .null, .null, .int 0, .int 0, .int 0, .int 0]))]) (wr := [(x, .inr (6, [.ref q_1, .null, .null, .null, .null, .null, .null, .null, .null, .long 0])), (q_1, .inr (5, [.ref w_5, .int 0])), (w_5, .inl (cI, 130, .inl (fun _ => 0)))]) (rest := [.ref q_6, .ref x]) [] ⟨hx, hb, hml, hown, hg⟩ (c_X3_init l D cI cZ cQ q_6) hd_X3_init k_82 hK.2.2.2.1 k_81 k_45 rfl ⟨Nat.le_of_ble_eq_true rfl, Nat.le_of_ble_eq_true rfl⟩ ⟨Nat.le_of_ble_eq_true rfl, Nat.le_of_ble_eq_true rfl⟩ hP hD hS hA hK [3] [0, 1, 2] rfl rfl (by decide) (by decide) (by decide) rfl hl.1 rfl (Nat.le_of_ble_eq_true rfl) d_X8_init_20 (fun w_9 H locs hw_8 hP hD hS => ?_)
  obtain ⟨w_10, y_11, a_12, u_13, rfl⟩ := hw_8
  have hP : va_P D vwCl [(x, .inr (6, [.ref q_1, .null, .null, .null, .null, .null, .null, .null, .null, .long 0])), (q_1, .inr (5, [.ref w_5, .int 0])), (w_5, .inl (cI, 130, .inl (fun _ => 0))), (q_6, .inr (2, [.ref w_10, .ref y_11, .ref a_12, .ref u_13, .int 0, .int 0, .int 1, .int 0])), (w_10, .inl (cI, 12, .inl (fun _ => 0))), (y_11, .inl (cI, 12, .inl (fun _ => 0))), (a_12, .inl (cI, 12, .inl (fun _ => 0))), (u_13, .inl (cI, 3, .inl (fun _ => 0)))] H := hP
  have hD : va_D A [(x, .inr (6, [.ref q_1, .null, .null, .null, .null, .null, .null, .null, .null, .long 0])), (q_1, .inr (5, [.ref w_5, .int 0])), (w_5, .inl (cI, 130, .inl (fun _ => 0))), (q_6, .inr (2, [.ref w_10, .ref y_11, .ref a_12, .ref u_13, .int 0, .int 0, .int 1, .int 0])), (w_10, .inl (cI, 12, .inl (fun _ => 0))), (y_11, .inl (cI, 12, .inl (fun _ => 0))), (a_12, .inl (cI, 12, .inl (fun _ => 0))), (u_13, .inl (cI, 3, .inl (fun _ => 0)))] := hD
  refine W.widen (k := 7) (n := 179) (Nat.le_of_ble_eq_true rfl) (Nat.le_of_ble_eq_true rfl) ?_
  refine va_putF (D := D) (ci := 6) (v := .ref q_6) (ty := .object "CommonUnits$Hoard") (C := RX8) (T := TX8) (N := 10) hx hb hg cu_iX8 tyX8 tyX8_ok nmX8 hown hK.1 hP hD hS 0 rfl rfl 1 (by decide) (hg _ k_180) (fun _ h9 => h9) rfl hin rfl (by decide +kernel) rfl rfl (Nat.le_of_ble_eq_true rfl) d_X8_init_23 (fun H locs hP hD hS => ?_)
  have hP : va_P D vwCl [(x, .inr (6, [.ref q_1, .ref q_6, .null, .null, .null, .null, .null, .null, .null, .long 0])), (q_1, .inr (5, [.ref w_5, .int 0])), (w_5, .inl (cI, 130, .inl (fun _ => 0))), (q_6, .inr (2, [.ref w_10, .ref y_11, .ref a_12, .ref u_13, .int 0, .int 0, .int 1, .int 0])), (w_10, .inl (cI, 12, .inl (fun _ => 0))), (y_11, .inl (cI, 12, .inl (fun _ => 0))), (a_12, .inl (cI, 12, .inl (fun _ => 0))), (u_13, .inl (cI, 3, .inl (fun _ => 0)))] H := hP
  have hD : va_D A [(x, .inr (6, [.ref q_1, .ref q_6, .null, .null, .null, .null, .null, .null, .null, .long 0])), (q_1, .inr (5, [.ref w_5, .int 0])), (w_5, .inl (cI, 130, .inl (fun _ => 0))), (q_6, .inr (2, [.ref w_10, .ref y_11, .ref a_12, .ref u_13, .int 0, .int 0, .int 1, .int 0])), (w_10, .inl (cI, 12, .inl (fun _ => 0))), (y_11, .inl (cI, 12, .inl (fun _ => 0))), (a_12, .inl (cI, 12, .inl (fun _ => 0))), (u_13, .inl (cI, 3, .inl (fun _ => 0)))] := hD
  refine lv_aload_n hx hb d_X8_init_26 rfl (lv_at hl 0 rfl) ?_
  refine va_new (ci := 2) (fs := [.null, .null, .null, .null, .int 0, .int 0, .int 0, .int 0]) (C := RX3) (T := TX3) (N := 8) hx hb hg cu_iX3 tyX3 tyX3_ok hown (hg _ k_78) (hg _ k_79) (hg _ k_45) hK.1 hP hD hS hA rfl (fun j hj => by rcases (show j = 0 ∨ j = 1 ∨ j = 2 ∨ j = 3 ∨ j = 4 ∨ j = 5 ∨ j = 6 ∨ j = 7 by omega) with rfl | rfl | rfl | rfl | rfl | rfl | rfl | rfl <;> rfl) (Nat.le_of_ble_eq_true rfl) (Nat.le_of_ble_eq_true rfl) d_X8_init_27 (fun q_14 H hP hD hS => ?_)
  have hP : va_P D vwCl [(x, .inr (6, [.ref q_1, .ref q_6, .null, .null, .null, .null, .null, .null, .null, .long 0])), (q_1, .inr (5, [.ref w_5, .int 0])), (w_5, .inl (cI, 130, .inl (fun _ => 0))), (q_6, .inr (2, [.ref w_10, .ref y_11, .ref a_12, .ref u_13, .int 0, .int 0, .int 1, .int 0])), (w_10, .inl (cI, 12, .inl (fun _ => 0))), (y_11, .inl (cI, 12, .inl (fun _ => 0))), (a_12, .inl (cI, 12, .inl (fun _ => 0))), (u_13, .inl (cI, 3, .inl (fun _ => 0))), (q_14, .inr (2, [.null, .null, .null, .null, .int 0, .int 0, .int 0, .int 0]))] H := hP
  have hD : va_D A [(x, .inr (6, [.ref q_1, .ref q_6, .null, .null, .null, .null, .null, .null, .null, .long 0])), (q_1, .inr (5, [.ref w_5, .int 0])), (w_5, .inl (cI, 130, .inl (fun _ => 0))), (q_6, .inr (2, [.ref w_10, .ref y_11, .ref a_12, .ref u_13, .int 0, .int 0, .int 1, .int 0])), (w_10, .inl (cI, 12, .inl (fun _ => 0))), (y_11, .inl (cI, 12, .inl (fun _ => 0))), (a_12, .inl (cI, 12, .inl (fun _ => 0))), (u_13, .inl (cI, 3, .inl (fun _ => 0))), (q_14, .inr (2, [.null, .null, .null, .null, .int 0, .int 0, .int 0, .int 0]))] := hD
  refine W.widen (k := 8) (n := 187) (Nat.le_of_ble_eq_true rfl) (Nat.le_of_ble_eq_true rfl) ?_
  refine lv_dup hx hb d_X8_init_30 rfl ?_
  refine cu_NV (wc := [(q_14, .inr (2, [.null, .null, .null, .null, .int 0, .int 0, .int 0, .int 0]))]) (wr := [(x, .inr (6, [.ref q_1, .ref q_6, .null, .null, .null, .null, .null, .null, .null, .long 0])), (q_1, .inr (5, [.ref w_5, .int 0])), (w_5, .inl (cI, 130, .inl (fun _ => 0))), (q_6, .inr (2, [.ref w_10, .ref y_11, .ref a_12, .ref u_13, .int 0, .int 0, .int 1, .int 0])), (w_10, .inl (cI, 12, .inl (fun _ => 0))), (y_11, .inl (cI, 12, .inl (fun _ => 0))), (a_12, .inl (cI, 12, .inl (fun _ => 0))), (u_13, .inl (cI, 3, .inl (fun _ => 0)))]) (rest := [.ref q_14, .ref x]) [] ⟨hx, hb, hml, hown, hg⟩ (c_X3_init l D cI cZ cQ q_14) hd_X3_init k_82 hK.2.2.2.1 k_81 k_45 rfl ⟨Nat.le_of_ble_eq_true rfl, Nat.le_of_ble_eq_true rfl⟩ ⟨Nat.le_of_ble_eq_true rfl, Nat.le_of_ble_eq_true rfl⟩ hP hD hS hA hK [8] [0, 1, 2, 3, 4, 5, 6, 7] rfl rfl (by decide) (by decide) (by decide) rfl hl.1 rfl (Nat.le_of_ble_eq_true rfl) d_X8_init_31 (fun w_17 H locs hw_16 hP hD hS => ?_)
  obtain ⟨w_18, y_19, a_20, u_21, rfl⟩ := hw_16
  have hP : va_P D vwCl [(x, .inr (6, [.ref q_1, .ref q_6, .null, .null, .null, .null, .null, .null, .null, .long 0])), (q_1, .inr (5, [.ref w_5, .int 0])), (w_5, .inl (cI, 130, .inl (fun _ => 0))), (q_6, .inr (2, [.ref w_10, .ref y_11, .ref a_12, .ref u_13, .int 0, .int 0, .int 1, .int 0])), (w_10, .inl (cI, 12, .inl (fun _ => 0))), (y_11, .inl (cI, 12, .inl (fun _ => 0))), (a_12, .inl (cI, 12, .inl (fun _ => 0))), (u_13, .inl (cI, 3, .inl (fun _ => 0))), (q_14, .inr (2, [.ref w_18, .ref y_19, .ref a_20, .ref u_21, .int 0, .int 0, .int 1, .int 0])), (w_18, .inl (cI, 12, .inl (fun _ => 0))), (y_19, .inl (cI, 12, .inl (fun _ => 0))), (a_20, .inl (cI, 12, .inl (fun _ => 0))), (u_21, .inl (cI, 3, .inl (fun _ => 0)))] H := hP
  have hD : va_D A [(x, .inr (6, [.ref q_1, .ref q_6, .null, .null, .null, .null, .null, .null, .null, .long 0])), (q_1, .inr (5, [.ref w_5, .int 0])), (w_5, .inl (cI, 130, .inl (fun _ => 0))), (q_6, .inr (2, [.ref w_10, .ref y_11, .ref a_12, .ref u_13, .int 0, .int 0, .int 1, .int 0])), (w_10, .inl (cI, 12, .inl (fun _ => 0))), (y_11, .inl (cI, 12, .inl (fun _ => 0))), (a_12, .inl (cI, 12, .inl (fun _ => 0))), (u_13, .inl (cI, 3, .inl (fun _ => 0))), (q_14, .inr (2, [.ref w_18, .ref y_19, .ref a_20, .ref u_21, .int 0, .int 0, .int 1, .int 0])), (w_18, .inl (cI, 12, .inl (fun _ => 0))), (y_19, .inl (cI, 12, .inl (fun _ => 0))), (a_20, .inl (cI, 12, .inl (fun _ => 0))), (u_21, .inl (cI, 3, .inl (fun _ => 0)))] := hD
  refine W.widen (k := 12) (n := 226) (Nat.le_of_ble_eq_true rfl) (Nat.le_of_ble_eq_true rfl) ?_
  refine va_putF (D := D) (ci := 6) (v := .ref q_14) (ty := .object "CommonUnits$Hoard") (C := RX8) (T := TX8) (N := 10) hx hb hg cu_iX8 tyX8 tyX8_ok nmX8 hown hK.1 hP hD hS 0 rfl rfl 2 (by decide) (hg _ k_181) (fun _ h9 => h9) rfl hin rfl (by decide +kernel) rfl rfl (Nat.le_of_ble_eq_true rfl) d_X8_init_34 (fun H locs hP hD hS => ?_)
  have hP : va_P D vwCl [(x, .inr (6, [.ref q_1, .ref q_6, .ref q_14, .null, .null, .null, .null, .null, .null, .long 0])), (q_1, .inr (5, [.ref w_5, .int 0])), (w_5, .inl (cI, 130, .inl (fun _ => 0))), (q_6, .inr (2, [.ref w_10, .ref y_11, .ref a_12, .ref u_13, .int 0, .int 0, .int 1, .int 0])), (w_10, .inl (cI, 12, .inl (fun _ => 0))), (y_11, .inl (cI, 12, .inl (fun _ => 0))), (a_12, .inl (cI, 12, .inl (fun _ => 0))), (u_13, .inl (cI, 3, .inl (fun _ => 0))), (q_14, .inr (2, [.ref w_18, .ref y_19, .ref a_20, .ref u_21, .int 0, .int 0, .int 1, .int 0])), (w_18, .inl (cI, 12, .inl (fun _ => 0))), (y_19, .inl (cI, 12, .inl (fun _ => 0))), (a_20, .inl (cI, 12, .inl (fun _ => 0))), (u_21, .inl (cI, 3, .inl (fun _ => 0)))] H := hP
  have hD : va_D A [(x, .inr (6, [.ref q_1, .ref q_6, .ref q_14, .null, .null, .null, .null, .null, .null, .long 0])), (q_1, .inr (5, [.ref w_5, .int 0])), (w_5, .inl (cI, 130, .inl (fun _ => 0))), (q_6, .inr (2, [.ref w_10, .ref y_11, .ref a_12, .ref u_13, .int 0, .int 0, .int 1, .int 0])), (w_10, .inl (cI, 12, .inl (fun _ => 0))), (y_11, .inl (cI, 12, .inl (fun _ => 0))), (a_12, .inl (cI, 12, .inl (fun _ => 0))), (u_13, .inl (cI, 3, .inl (fun _ => 0))), (q_14, .inr (2, [.ref w_18, .ref y_19, .ref a_20, .ref u_21, .int 0, .int 0, .int 1, .int 0])), (w_18, .inl (cI, 12, .inl (fun _ => 0))), (y_19, .inl (cI, 12, .inl (fun _ => 0))), (a_20, .inl (cI, 12, .inl (fun _ => 0))), (u_21, .inl (cI, 3, .inl (fun _ => 0)))] := hD
  refine lv_aload_n hx hb d_X8_init_37 rfl (lv_at hl 0 rfl) ?_
  refine va_new (ci := 0) (fs := [.null, .null, .null, .int 0, .int 0]) (C := RX0) (T := TX0) (N := 5) hx hb hg cu_iX0 tyX0 tyX0_ok hown (hg _ k_121) (hg _ k_122) (hg _ k_46) hK.1 hP hD hS hA rfl (fun j hj => by rcases (show j = 0 ∨ j = 1 ∨ j = 2 ∨ j = 3 ∨ j = 4 by omega) with rfl | rfl | rfl | rfl | rfl <;> rfl) (Nat.le_of_ble_eq_true rfl) (Nat.le_of_ble_eq_true rfl) d_X8_init_38 (fun q_22 H hP hD hS => ?_)
  have hP : va_P D vwCl [(x, .inr (6, [.ref q_1, .ref q_6, .ref q_14, .null, .null, .null, .null, .null, .null, .long 0])), (q_1, .inr (5, [.ref w_5, .int 0])), (w_5, .inl (cI, 130, .inl (fun _ => 0))), (q_6, .inr (2, [.ref w_10, .ref y_11, .ref a_12, .ref u_13, .int 0, .int 0, .int 1, .int 0])), (w_10, .inl (cI, 12, .inl (fun _ => 0))), (y_11, .inl (cI, 12, .inl (fun _ => 0))), (a_12, .inl (cI, 12, .inl (fun _ => 0))), (u_13, .inl (cI, 3, .inl (fun _ => 0))), (q_14, .inr (2, [.ref w_18, .ref y_19, .ref a_20, .ref u_21, .int 0, .int 0, .int 1, .int 0])), (w_18, .inl (cI, 12, .inl (fun _ => 0))), (y_19, .inl (cI, 12, .inl (fun _ => 0))), (a_20, .inl (cI, 12, .inl (fun _ => 0))), (u_21, .inl (cI, 3, .inl (fun _ => 0))), (q_22, .inr (0, [.null, .null, .null, .int 0, .int 0]))] H := hP
  have hD : va_D A [(x, .inr (6, [.ref q_1, .ref q_6, .ref q_14, .null, .null, .null, .null, .null, .null, .long 0])), (q_1, .inr (5, [.ref w_5, .int 0])), (w_5, .inl (cI, 130, .inl (fun _ => 0))), (q_6, .inr (2, [.ref w_10, .ref y_11, .ref a_12, .ref u_13, .int 0, .int 0, .int 1, .int 0])), (w_10, .inl (cI, 12, .inl (fun _ => 0))), (y_11, .inl (cI, 12, .inl (fun _ => 0))), (a_12, .inl (cI, 12, .inl (fun _ => 0))), (u_13, .inl (cI, 3, .inl (fun _ => 0))), (q_14, .inr (2, [.ref w_18, .ref y_19, .ref a_20, .ref u_21, .int 0, .int 0, .int 1, .int 0])), (w_18, .inl (cI, 12, .inl (fun _ => 0))), (y_19, .inl (cI, 12, .inl (fun _ => 0))), (a_20, .inl (cI, 12, .inl (fun _ => 0))), (u_21, .inl (cI, 3, .inl (fun _ => 0))), (q_22, .inr (0, [.null, .null, .null, .int 0, .int 0]))] := hD
  refine W.widen (k := 13) (n := 231) (Nat.le_of_ble_eq_true rfl) (Nat.le_of_ble_eq_true rfl) ?_
  refine lv_dup hx hb d_X8_init_41 rfl ?_
  refine cu_NV (wc := [(q_22, .inr (0, [.null, .null, .null, .int 0, .int 0]))]) (wr := [(x, .inr (6, [.ref q_1, .ref q_6, .ref q_14, .null, .null, .null, .null, .null, .null, .long 0])), (q_1, .inr (5, [.ref w_5, .int 0])), (w_5, .inl (cI, 130, .inl (fun _ => 0))), (q_6, .inr (2, [.ref w_10, .ref y_11, .ref a_12, .ref u_13, .int 0, .int 0, .int 1, .int 0])), (w_10, .inl (cI, 12, .inl (fun _ => 0))), (y_11, .inl (cI, 12, .inl (fun _ => 0))), (a_12, .inl (cI, 12, .inl (fun _ => 0))), (u_13, .inl (cI, 3, .inl (fun _ => 0))), (q_14, .inr (2, [.ref w_18, .ref y_19, .ref a_20, .ref u_21, .int 0, .int 0, .int 1, .int 0])), (w_18, .inl (cI, 12, .inl (fun _ => 0))), (y_19, .inl (cI, 12, .inl (fun _ => 0))), (a_20, .inl (cI, 12, .inl (fun _ => 0))), (u_21, .inl (cI, 3, .inl (fun _ => 0)))]) (rest := [.ref q_22, .ref x]) [] ⟨hx, hb, hml, hown, hg⟩ (c_X0_init l D cI cZ cQ q_22) hd_X0_init k_125 hK.2.2.2.2.1 k_124 k_46 rfl ⟨Nat.le_of_ble_eq_true rfl, Nat.le_of_ble_eq_true rfl⟩ ⟨Nat.le_of_ble_eq_true rfl, Nat.le_of_ble_eq_true rfl⟩ hP hD hS hA hK [13] [0, 1, 2, 3, 4, 5, 6, 7, 8, 9, 10, 11, 12] rfl rfl (by decide) (by decide) (by decide) rfl hl.1 rfl (Nat.le_of_ble_eq_true rfl) d_X8_init_42 (fun w_25 H locs hw_24 hP hD hS => ?_)
  obtain ⟨w_26, y_27, a_28, rfl⟩ := hw_24
  have hP : va_P D vwCl [(x, .inr (6, [.ref q_1, .ref q_6, .ref q_14, .null, .null, .null, .null, .null, .null, .long 0])), (q_1, .inr (5, [.ref w_5, .int 0])), (w_5, .inl (cI, 130, .inl (fun _ => 0))), (q_6, .inr (2, [.ref w_10, .ref y_11, .ref a_12, .ref u_13, .int 0, .int 0, .int 1, .int 0])), (w_10, .inl (cI, 12, .inl (fun _ => 0))), (y_11, .inl (cI, 12, .inl (fun _ => 0))), (a_12, .inl (cI, 12, .inl (fun _ => 0))), (u_13, .inl (cI, 3, .inl (fun _ => 0))), (q_14, .inr (2, [.ref w_18, .ref y_19, .ref a_20, .ref u_21, .int 0, .int 0, .int 1, .int 0])), (w_18, .inl (cI, 12, .inl (fun _ => 0))), (y_19, .inl (cI, 12, .inl (fun _ => 0))), (a_20, .inl (cI, 12, .inl (fun _ => 0))), (u_21, .inl (cI, 3, .inl (fun _ => 0))), (q_22, .inr (0, [.ref w_26, .ref y_27, .ref a_28, .int 0, .int 0])), (w_26, .inl (cI, 14, .inl (fun _ => 0))), (y_27, .inl (cI, 14, .inl (fun _ => 0))), (a_28, .inl (cI, 14, .inl (fun _ => 0)))] H := hP
  have hD : va_D A [(x, .inr (6, [.ref q_1, .ref q_6, .ref q_14, .null, .null, .null, .null, .null, .null, .long 0])), (q_1, .inr (5, [.ref w_5, .int 0])), (w_5, .inl (cI, 130, .inl (fun _ => 0))), (q_6, .inr (2, [.ref w_10, .ref y_11, .ref a_12, .ref u_13, .int 0, .int 0, .int 1, .int 0])), (w_10, .inl (cI, 12, .inl (fun _ => 0))), (y_11, .inl (cI, 12, .inl (fun _ => 0))), (a_12, .inl (cI, 12, .inl (fun _ => 0))), (u_13, .inl (cI, 3, .inl (fun _ => 0))), (q_14, .inr (2, [.ref w_18, .ref y_19, .ref a_20, .ref u_21, .int 0, .int 0, .int 1, .int 0])), (w_18, .inl (cI, 12, .inl (fun _ => 0))), (y_19, .inl (cI, 12, .inl (fun _ => 0))), (a_20, .inl (cI, 12, .inl (fun _ => 0))), (u_21, .inl (cI, 3, .inl (fun _ => 0))), (q_22, .inr (0, [.ref w_26, .ref y_27, .ref a_28, .int 0, .int 0])), (w_26, .inl (cI, 14, .inl (fun _ => 0))), (y_27, .inl (cI, 14, .inl (fun _ => 0))), (a_28, .inl (cI, 14, .inl (fun _ => 0)))] := hD
  refine W.widen (k := 16) (n := 273) (Nat.le_of_ble_eq_true rfl) (Nat.le_of_ble_eq_true rfl) ?_
  refine va_putF (D := D) (ci := 6) (v := .ref q_22) (ty := .object "CommonUnits$Acts") (C := RX8) (T := TX8) (N := 10) hx hb hg cu_iX8 tyX8 tyX8_ok nmX8 hown hK.1 hP hD hS 0 rfl rfl 3 (by decide) (hg _ k_182) (fun _ h9 => h9) rfl hin rfl (by decide +kernel) rfl rfl (Nat.le_of_ble_eq_true rfl) d_X8_init_45 (fun H locs hP hD hS => ?_)
  have hP : va_P D vwCl [(x, .inr (6, [.ref q_1, .ref q_6, .ref q_14, .ref q_22, .null, .null, .null, .null, .null, .long 0])), (q_1, .inr (5, [.ref w_5, .int 0])), (w_5, .inl (cI, 130, .inl (fun _ => 0))), (q_6, .inr (2, [.ref w_10, .ref y_11, .ref a_12, .ref u_13, .int 0, .int 0, .int 1, .int 0])), (w_10, .inl (cI, 12, .inl (fun _ => 0))), (y_11, .inl (cI, 12, .inl (fun _ => 0))), (a_12, .inl (cI, 12, .inl (fun _ => 0))), (u_13, .inl (cI, 3, .inl (fun _ => 0))), (q_14, .inr (2, [.ref w_18, .ref y_19, .ref a_20, .ref u_21, .int 0, .int 0, .int 1, .int 0])), (w_18, .inl (cI, 12, .inl (fun _ => 0))), (y_19, .inl (cI, 12, .inl (fun _ => 0))), (a_20, .inl (cI, 12, .inl (fun _ => 0))), (u_21, .inl (cI, 3, .inl (fun _ => 0))), (q_22, .inr (0, [.ref w_26, .ref y_27, .ref a_28, .int 0, .int 0])), (w_26, .inl (cI, 14, .inl (fun _ => 0))), (y_27, .inl (cI, 14, .inl (fun _ => 0))), (a_28, .inl (cI, 14, .inl (fun _ => 0)))] H := hP
  have hD : va_D A [(x, .inr (6, [.ref q_1, .ref q_6, .ref q_14, .ref q_22, .null, .null, .null, .null, .null, .long 0])), (q_1, .inr (5, [.ref w_5, .int 0])), (w_5, .inl (cI, 130, .inl (fun _ => 0))), (q_6, .inr (2, [.ref w_10, .ref y_11, .ref a_12, .ref u_13, .int 0, .int 0, .int 1, .int 0])), (w_10, .inl (cI, 12, .inl (fun _ => 0))), (y_11, .inl (cI, 12, .inl (fun _ => 0))), (a_12, .inl (cI, 12, .inl (fun _ => 0))), (u_13, .inl (cI, 3, .inl (fun _ => 0))), (q_14, .inr (2, [.ref w_18, .ref y_19, .ref a_20, .ref u_21, .int 0, .int 0, .int 1, .int 0])), (w_18, .inl (cI, 12, .inl (fun _ => 0))), (y_19, .inl (cI, 12, .inl (fun _ => 0))), (a_20, .inl (cI, 12, .inl (fun _ => 0))), (u_21, .inl (cI, 3, .inl (fun _ => 0))), (q_22, .inr (0, [.ref w_26, .ref y_27, .ref a_28, .int 0, .int 0])), (w_26, .inl (cI, 14, .inl (fun _ => 0))), (y_27, .inl (cI, 14, .inl (fun _ => 0))), (a_28, .inl (cI, 14, .inl (fun _ => 0)))] := hD
  refine lv_aload_n hx hb d_X8_init_48 rfl (lv_at hl 0 rfl) ?_
  refine va_new (ci := 1) (fs := [.null, .int 0, .int 0]) (C := RX1) (T := TX1) (N := 3) hx hb hg cu_iX1 tyX1 tyX1_ok hown (hg _ k_144) (hg _ k_145) (hg _ k_47) hK.1 hP hD hS hA rfl (fun j hj => by rcases (show j = 0 ∨ j = 1 ∨ j = 2 by omega) with rfl | rfl | rfl <;> rfl) (Nat.le_of_ble_eq_true rfl) (Nat.le_of_ble_eq_true rfl) d_X8_init_49 (fun q_29 H hP hD hS => ?_)
  have hP : va_P D vwCl [(x, .inr (6, [.ref q_1, .ref q_6, .ref q_14, .ref q_22, .null, .null, .null, .null, .null, .long 0])), (q_1, .inr (5, [.ref w_5, .int 0])), (w_5, .inl (cI, 130, .inl (fun _ => 0))), (q_6, .inr (2, [.ref w_10, .ref y_11, .ref a_12, .ref u_13, .int 0, .int 0, .int 1, .int 0])), (w_10, .inl (cI, 12, .inl (fun _ => 0))), (y_11, .inl (cI, 12, .inl (fun _ => 0))), (a_12, .inl (cI, 12, .inl (fun _ => 0))), (u_13, .inl (cI, 3, .inl (fun _ => 0))), (q_14, .inr (2, [.ref w_18, .ref y_19, .ref a_20, .ref u_21, .int 0, .int 0, .int 1, .int 0])), (w_18, .inl (cI, 12, .inl (fun _ => 0))), (y_19, .inl (cI, 12, .inl (fun _ => 0))), (a_20, .inl (cI, 12, .inl (fun _ => 0))), (u_21, .inl (cI, 3, .inl (fun _ => 0))), (q_22, .inr (0, [.ref w_26, .ref y_27, .ref a_28, .int 0, .int 0])), (w_26, .inl (cI, 14, .inl (fun _ => 0))), (y_27, .inl (cI, 14, .inl (fun _ => 0))), (a_28, .inl (cI, 14, .inl (fun _ => 0))), (q_29, .inr (1, [.null, .int 0, .int 0]))] H := hP
  have hD : va_D A [(x, .inr (6, [.ref q_1, .ref q_6, .ref q_14, .ref q_22, .null, .null, .null, .null, .null, .long 0])), (q_1, .inr (5, [.ref w_5, .int 0])), (w_5, .inl (cI, 130, .inl (fun _ => 0))), (q_6, .inr (2, [.ref w_10, .ref y_11, .ref a_12, .ref u_13, .int 0, .int 0, .int 1, .int 0])), (w_10, .inl (cI, 12, .inl (fun _ => 0))), (y_11, .inl (cI, 12, .inl (fun _ => 0))), (a_12, .inl (cI, 12, .inl (fun _ => 0))), (u_13, .inl (cI, 3, .inl (fun _ => 0))), (q_14, .inr (2, [.ref w_18, .ref y_19, .ref a_20, .ref u_21, .int 0, .int 0, .int 1, .int 0])), (w_18, .inl (cI, 12, .inl (fun _ => 0))), (y_19, .inl (cI, 12, .inl (fun _ => 0))), (a_20, .inl (cI, 12, .inl (fun _ => 0))), (u_21, .inl (cI, 3, .inl (fun _ => 0))), (q_22, .inr (0, [.ref w_26, .ref y_27, .ref a_28, .int 0, .int 0])), (w_26, .inl (cI, 14, .inl (fun _ => 0))), (y_27, .inl (cI, 14, .inl (fun _ => 0))), (a_28, .inl (cI, 14, .inl (fun _ => 0))), (q_29, .inr (1, [.null, .int 0, .int 0]))] := hD
  refine W.widen (k := 17) (n := 276) (Nat.le_of_ble_eq_true rfl) (Nat.le_of_ble_eq_true rfl) ?_
  refine lv_dup hx hb d_X8_init_52 rfl ?_
  refine cu_NV (wc := [(q_29, .inr (1, [.null, .int 0, .int 0]))]) (wr := [(x, .inr (6, [.ref q_1, .ref q_6, .ref q_14, .ref q_22, .null, .null, .null, .null, .null, .long 0])), (q_1, .inr (5, [.ref w_5, .int 0])), (w_5, .inl (cI, 130, .inl (fun _ => 0))), (q_6, .inr (2, [.ref w_10, .ref y_11, .ref a_12, .ref u_13, .int 0, .int 0, .int 1, .int 0])), (w_10, .inl (cI, 12, .inl (fun _ => 0))), (y_11, .inl (cI, 12, .inl (fun _ => 0))), (a_12, .inl (cI, 12, .inl (fun _ => 0))), (u_13, .inl (cI, 3, .inl (fun _ => 0))), (q_14, .inr (2, [.ref w_18, .ref y_19, .ref a_20, .ref u_21, .int 0, .int 0, .int 1, .int 0])), (w_18, .inl (cI, 12, .inl (fun _ => 0))), (y_19, .inl (cI, 12, .inl (fun _ => 0))), (a_20, .inl (cI, 12, .inl (fun _ => 0))), (u_21, .inl (cI, 3, .inl (fun _ => 0))), (q_22, .inr (0, [.ref w_26, .ref y_27, .ref a_28, .int 0, .int 0])), (w_26, .inl (cI, 14, .inl (fun _ => 0))), (y_27, .inl (cI, 14, .inl (fun _ => 0))), (a_28, .inl (cI, 14, .inl (fun _ => 0)))]) (rest := [.ref q_29, .ref x]) [] ⟨hx, hb, hml, hown, hg⟩ (c_X1_init l D cI cZ cQ q_29) hd_X1_init k_148 hK.2.2.2.2.2.1 k_147 k_47 rfl ⟨Nat.le_of_ble_eq_true rfl, Nat.le_of_ble_eq_true rfl⟩ ⟨Nat.le_of_ble_eq_true rfl, Nat.le_of_ble_eq_true rfl⟩ hP hD hS hA hK [17] [0, 1, 2, 3, 4, 5, 6, 7, 8, 9, 10, 11, 12, 13, 14, 15, 16] rfl rfl (by decide) (by decide) (by decide) rfl hl.1 rfl (Nat.le_of_ble_eq_true rfl) d_X8_init_53 (fun w_32 H locs hw_31 hP hD hS => ?_)
  obtain ⟨w_33, rfl⟩ := hw_31
  have hP : va_P D vwCl [(x, .inr (6, [.ref q_1, .ref q_6, .ref q_14, .ref q_22, .null, .null, .null, .null, .null, .long 0])), (q_1, .inr (5, [.ref w_5, .int 0])), (w_5, .inl (cI, 130, .inl (fun _ => 0))), (q_6, .inr (2, [.ref w_10, .ref y_11, .ref a_12, .ref u_13, .int 0, .int 0, .int 1, .int 0])), (w_10, .inl (cI, 12, .inl (fun _ => 0))), (y_11, .inl (cI, 12, .inl (fun _ => 0))), (a_12, .inl (cI, 12, .inl (fun _ => 0))), (u_13, .inl (cI, 3, .inl (fun _ => 0))), (q_14, .inr (2, [.ref w_18, .ref y_19, .ref a_20, .ref u_21, .int 0, .int 0, .int 1, .int 0])), (w_18, .inl (cI, 12, .inl (fun _ => 0))), (y_19, .inl (cI, 12, .inl (fun _ => 0))), (a_20, .inl (cI, 12, .inl (fun _ => 0))), (u_21, .inl (cI, 3, .inl (fun _ => 0))), (q_22, .inr (0, [.ref w_26, .ref y_27, .ref a_28, .int 0, .int 0])), (w_26, .inl (cI, 14, .inl (fun _ => 0))), (y_27, .inl (cI, 14, .inl (fun _ => 0))), (a_28, .inl (cI, 14, .inl (fun _ => 0))), (q_29, .inr (1, [.ref w_33, .int 0, .int 0])), (w_33, .inl (cI, 256, .inl (fun _ => 0)))] H := hP
  have hD : va_D A [(x, .inr (6, [.ref q_1, .ref q_6, .ref q_14, .ref q_22, .null, .null, .null, .null, .null, .long 0])), (q_1, .inr (5, [.ref w_5, .int 0])), (w_5, .inl (cI, 130, .inl (fun _ => 0))), (q_6, .inr (2, [.ref w_10, .ref y_11, .ref a_12, .ref u_13, .int 0, .int 0, .int 1, .int 0])), (w_10, .inl (cI, 12, .inl (fun _ => 0))), (y_11, .inl (cI, 12, .inl (fun _ => 0))), (a_12, .inl (cI, 12, .inl (fun _ => 0))), (u_13, .inl (cI, 3, .inl (fun _ => 0))), (q_14, .inr (2, [.ref w_18, .ref y_19, .ref a_20, .ref u_21, .int 0, .int 0, .int 1, .int 0])), (w_18, .inl (cI, 12, .inl (fun _ => 0))), (y_19, .inl (cI, 12, .inl (fun _ => 0))), (a_20, .inl (cI, 12, .inl (fun _ => 0))), (u_21, .inl (cI, 3, .inl (fun _ => 0))), (q_22, .inr (0, [.ref w_26, .ref y_27, .ref a_28, .int 0, .int 0])), (w_26, .inl (cI, 14, .inl (fun _ => 0))), (y_27, .inl (cI, 14, .inl (fun _ => 0))), (a_28, .inl (cI, 14, .inl (fun _ => 0))), (q_29, .inr (1, [.ref w_33, .int 0, .int 0])), (w_33, .inl (cI, 256, .inl (fun _ => 0)))] := hD
  refine W.widen (k := 18) (n := 532) (Nat.le_of_ble_eq_true rfl) (Nat.le_of_ble_eq_true rfl) ?_
  refine va_putF (D := D) (ci := 6) (v := .ref q_29) (ty := .object "CommonUnits$Crowd") (C := RX8) (T := TX8) (N := 10) hx hb hg cu_iX8 tyX8 tyX8_ok nmX8 hown hK.1 hP hD hS 0 rfl rfl 4 (by decide) (hg _ k_183) (fun _ h9 => h9) rfl hin rfl (by decide +kernel) rfl rfl (Nat.le_of_ble_eq_true rfl) d_X8_init_56 (fun H locs hP hD hS => ?_)
  have hP : va_P D vwCl [(x, .inr (6, [.ref q_1, .ref q_6, .ref q_14, .ref q_22, .ref q_29, .null, .null, .null, .null, .long 0])), (q_1, .inr (5, [.ref w_5, .int 0])), (w_5, .inl (cI, 130, .inl (fun _ => 0))), (q_6, .inr (2, [.ref w_10, .ref y_11, .ref a_12, .ref u_13, .int 0, .int 0, .int 1, .int 0])), (w_10, .inl (cI, 12, .inl (fun _ => 0))), (y_11, .inl (cI, 12, .inl (fun _ => 0))), (a_12, .inl (cI, 12, .inl (fun _ => 0))), (u_13, .inl (cI, 3, .inl (fun _ => 0))), (q_14, .inr (2, [.ref w_18, .ref y_19, .ref a_20, .ref u_21, .int 0, .int 0, .int 1, .int 0])), (w_18, .inl (cI, 12, .inl (fun _ => 0))), (y_19, .inl (cI, 12, .inl (fun _ => 0))), (a_20, .inl (cI, 12, .inl (fun _ => 0))), (u_21, .inl (cI, 3, .inl (fun _ => 0))), (q_22, .inr (0, [.ref w_26, .ref y_27, .ref a_28, .int 0, .int 0])), (w_26, .inl (cI, 14, .inl (fun _ => 0))), (y_27, .inl (cI, 14, .inl (fun _ => 0))), (a_28, .inl (cI, 14, .inl (fun _ => 0))), (q_29, .inr (1, [.ref w_33, .int 0, .int 0])), (w_33, .inl (cI, 256, .inl (fun _ => 0)))] H := hP
  have hD : va_D A [(x, .inr (6, [.ref q_1, .ref q_6, .ref q_14, .ref q_22, .ref q_29, .null, .null, .null, .null, .long 0])), (q_1, .inr (5, [.ref w_5, .int 0])), (w_5, .inl (cI, 130, .inl (fun _ => 0))), (q_6, .inr (2, [.ref w_10, .ref y_11, .ref a_12, .ref u_13, .int 0, .int 0, .int 1, .int 0])), (w_10, .inl (cI, 12, .inl (fun _ => 0))), (y_11, .inl (cI, 12, .inl (fun _ => 0))), (a_12, .inl (cI, 12, .inl (fun _ => 0))), (u_13, .inl (cI, 3, .inl (fun _ => 0))), (q_14, .inr (2, [.ref w_18, .ref y_19, .ref a_20, .ref u_21, .int 0, .int 0, .int 1, .int 0])), (w_18, .inl (cI, 12, .inl (fun _ => 0))), (y_19, .inl (cI, 12, .inl (fun _ => 0))), (a_20, .inl (cI, 12, .inl (fun _ => 0))), (u_21, .inl (cI, 3, .inl (fun _ => 0))), (q_22, .inr (0, [.ref w_26, .ref y_27, .ref a_28, .int 0, .int 0])), (w_26, .inl (cI, 14, .inl (fun _ => 0))), (y_27, .inl (cI, 14, .inl (fun _ => 0))), (a_28, .inl (cI, 14, .inl (fun _ => 0))), (q_29, .inr (1, [.ref w_33, .int 0, .int 0])), (w_33, .inl (cI, 256, .inl (fun _ => 0)))] := hD
  refine lv_aload_n hx hb d_X8_init_59 rfl (lv_at hl 0 rfl) ?_
  refine va_new (ci := 3) (fs := [.null, .null, .int 0]) (C := RX4) (T := TX4) (N := 3) hx hb hg cu_iX4 tyX4 tyX4_ok hown (hg _ k_160) (hg _ k_161) (hg _ k_48) hK.1 hP hD hS hA rfl (fun j hj => by rcases (show j = 0 ∨ j = 1 ∨ j = 2 by omega) with rfl | rfl | rfl <;> rfl) (Nat.le_of_ble_eq_true rfl) (Nat.le_of_ble_eq_true rfl) d_X8_init_60 (fun q_34 H hP hD hS => ?_)
  have hP : va_P D vwCl [(x, .inr (6, [.ref q_1, .ref q_6, .ref q_14, .ref q_22, .ref q_29, .null, .null, .null, .null, .long 0])), (q_1, .inr (5, [.ref w_5, .int 0])), (w_5, .inl (cI, 130, .inl (fun _ => 0))), (q_6, .inr (2, [.ref w_10, .ref y_11, .ref a_12, .ref u_13, .int 0, .int 0, .int 1, .int 0])), (w_10, .inl (cI, 12, .inl (fun _ => 0))), (y_11, .inl (cI, 12, .inl (fun _ => 0))), (a_12, .inl (cI, 12, .inl (fun _ => 0))), (u_13, .inl (cI, 3, .inl (fun _ => 0))), (q_14, .inr (2, [.ref w_18, .ref y_19, .ref a_20, .ref u_21, .int 0, .int 0, .int 1, .int 0])), (w_18, .inl (cI, 12, .inl (fun _ => 0))), (y_19, .inl (cI, 12, .inl (fun _ => 0))), (a_20, .inl (cI, 12, .inl (fun _ => 0))), (u_21, .inl (cI, 3, .inl (fun _ => 0))), (q_22, .inr (0, [.ref w_26, .ref y_27, .ref a_28, .int 0, .int 0])), (w_26, .inl (cI, 14, .inl (fun _ => 0))), (y_27, .inl (cI, 14, .inl (fun _ => 0))), (a_28, .inl (cI, 14, .inl (fun _ => 0))), (q_29, .inr (1, [.ref w_33, .int 0, .int 0])), (w_33, .inl (cI, 256, .inl (fun _ => 0))), (q_34, .inr (3, [.null, .null, .int 0]))] H := hP
  have hD : va_D A [(x, .inr (6, [.ref q_1, .ref q_6, .ref q_14, .ref q_22, .ref q_29, .null, .null, .null, .null, .long 0])), (q_1, .inr (5, [.ref w_5, .int 0])), (w_5, .inl (cI, 130, .inl (fun _ => 0))), (q_6, .inr (2, [.ref w_10, .ref y_11, .ref a_12, .ref u_13, .int 0, .int 0, .int 1, .int 0])), (w_10, .inl (cI, 12, .inl (fun _ => 0))), (y_11, .inl (cI, 12, .inl (fun _ => 0))), (a_12, .inl (cI, 12, .inl (fun _ => 0))), (u_13, .inl (cI, 3, .inl (fun _ => 0))), (q_14, .inr (2, [.ref w_18, .ref y_19, .ref a_20, .ref u_21, .int 0, .int 0, .int 1, .int 0])), (w_18, .inl (cI, 12, .inl (fun _ => 0))), (y_19, .inl (cI, 12, .inl (fun _ => 0))), (a_20, .inl (cI, 12, .inl (fun _ => 0))), (u_21, .inl (cI, 3, .inl (fun _ => 0))), (q_22, .inr (0, [.ref w_26, .ref y_27, .ref a_28, .int 0, .int 0])), (w_26, .inl (cI, 14, .inl (fun _ => 0))), (y_27, .inl (cI, 14, .inl (fun _ => 0))), (a_28, .inl (cI, 14, .inl (fun _ => 0))), (q_29, .inr (1, [.ref w_33, .int 0, .int 0])), (w_33, .inl (cI, 256, .inl (fun _ => 0))), (q_34, .inr (3, [.null, .null, .int 0]))] := hD
  refine W.widen (k := 19) (n := 535) (Nat.le_of_ble_eq_true rfl) (Nat.le_of_ble_eq_true rfl) ?_
  refine lv_dup hx hb d_X8_init_63 rfl ?_
  refine cu_NV (wc := [(q_34, .inr (3, [.null, .null, .int 0]))]) (wr := [(x, .inr (6, [.ref q_1, .ref q_6, .ref q_14, .ref q_22, .ref q_29, .null, .null, .null, .null, .long 0])), (q_1, .inr (5, [.ref w_5, .int 0])), (w_5, .inl (cI, 130, .inl (fun _ => 0))), (q_6, .inr (2, [.ref w_10, .ref y_11, .ref a_12, .ref u_13, .int 0, .int 0, .int 1, .int 0])), (w_10, .inl (cI, 12, .inl (fun _ => 0))), (y_11, .inl (cI, 12, .inl (fun _ => 0))), (a_12, .inl (cI, 12, .inl (fun _ => 0))), (u_13, .inl (cI, 3, .inl (fun _ => 0))), (q_14, .inr (2, [.ref w_18, .ref y_19, .ref a_20, .ref u_21, .int 0, .int 0, .int 1, .int 0])), (w_18, .inl (cI, 12, .inl (fun _ => 0))), (y_19, .inl (cI, 12, .inl (fun _ => 0))), (a_20, .inl (cI, 12, .inl (fun _ => 0))), (u_21, .inl (cI, 3, .inl (fun _ => 0))), (q_22, .inr (0, [.ref w_26, .ref y_27, .ref a_28, .int 0, .int 0])), (w_26, .inl (cI, 14, .inl (fun _ => 0))), (y_27, .inl (cI, 14, .inl (fun _ => 0))), (a_28, .inl (cI, 14, .inl (fun _ => 0))), (q_29, .inr (1, [.ref w_33, .int 0, .int 0])), (w_33, .inl (cI, 256, .inl (fun _ => 0)))]) (rest := [.ref q_34, .ref x]) [] ⟨hx, hb, hml, hown, hg⟩ (c_X4_init l D cI cZ cQ q_34) hd_X4_init k_164 hK.2.2.2.2.2.2.1 k_163 k_48 rfl ⟨Nat.le_of_ble_eq_true rfl, Nat.le_of_ble_eq_true rfl⟩ ⟨Nat.le_of_ble_eq_true rfl, Nat.le_of_ble_eq_true rfl⟩ hP hD hS hA hK [19] [0, 1, 2, 3, 4, 5, 6, 7, 8, 9, 10, 11, 12, 13, 14, 15, 16, 17, 18] rfl rfl (by decide) (by decide) (by decide) rfl hl.1 rfl (Nat.le_of_ble_eq_true rfl) d_X8_init_64 (fun w_37 H locs hw_36 hP hD hS => ?_)
  obtain ⟨w_38, y_39, rfl⟩ := hw_36
  have hP : va_P D vwCl [(x, .inr (6, [.ref q_1, .ref q_6, .ref q_14, .ref q_22, .ref q_29, .null, .null, .null, .null, .long 0])), (q_1, .inr (5, [.ref w_5, .int 0])), (w_5, .inl (cI, 130, .inl (fun _ => 0))), (q_6, .inr (2, [.ref w_10, .ref y_11, .ref a_12, .ref u_13, .int 0, .int 0, .int 1, .int 0])), (w_10, .inl (cI, 12, .inl (fun _ => 0))), (y_11, .inl (cI, 12, .inl (fun _ => 0))), (a_12, .inl (cI, 12, .inl (fun _ => 0))), (u_13, .inl (cI, 3, .inl (fun _ => 0))), (q_14, .inr (2, [.ref w_18, .ref y_19, .ref a_20, .ref u_21, .int 0, .int 0, .int 1, .int 0])), (w_18, .inl (cI, 12, .inl (fun _ => 0))), (y_19, .inl (cI, 12, .inl (fun _ => 0))), (a_20, .inl (cI, 12, .inl (fun _ => 0))), (u_21, .inl (cI, 3, .inl (fun _ => 0))), (q_22, .inr (0, [.ref w_26, .ref y_27, .ref a_28, .int 0, .int 0])), (w_26, .inl (cI, 14, .inl (fun _ => 0))), (y_27, .inl (cI, 14, .inl (fun _ => 0))), (a_28, .inl (cI, 14, .inl (fun _ => 0))), (q_29, .inr (1, [.ref w_33, .int 0, .int 0])), (w_33, .inl (cI, 256, .inl (fun _ => 0))), (q_34, .inr (3, [.ref w_38, .ref y_39, .int 0]))] H := hP
  have hD : va_D A [(x, .inr (6, [.ref q_1, .ref q_6, .ref q_14, .ref q_22, .ref q_29, .null, .null, .null, .null, .long 0])), (q_1, .inr (5, [.ref w_5, .int 0])), (w_5, .inl (cI, 130, .inl (fun _ => 0))), (q_6, .inr (2, [.ref w_10, .ref y_11, .ref a_12, .ref u_13, .int 0, .int 0, .int 1, .int 0])), (w_10, .inl (cI, 12, .inl (fun _ => 0))), (y_11, .inl (cI, 12, .inl (fun _ => 0))), (a_12, .inl (cI, 12, .inl (fun _ => 0))), (u_13, .inl (cI, 3, .inl (fun _ => 0))), (q_14, .inr (2, [.ref w_18, .ref y_19, .ref a_20, .ref u_21, .int 0, .int 0, .int 1, .int 0])), (w_18, .inl (cI, 12, .inl (fun _ => 0))), (y_19, .inl (cI, 12, .inl (fun _ => 0))), (a_20, .inl (cI, 12, .inl (fun _ => 0))), (u_21, .inl (cI, 3, .inl (fun _ => 0))), (q_22, .inr (0, [.ref w_26, .ref y_27, .ref a_28, .int 0, .int 0])), (w_26, .inl (cI, 14, .inl (fun _ => 0))), (y_27, .inl (cI, 14, .inl (fun _ => 0))), (a_28, .inl (cI, 14, .inl (fun _ => 0))), (q_29, .inr (1, [.ref w_33, .int 0, .int 0])), (w_33, .inl (cI, 256, .inl (fun _ => 0))), (q_34, .inr (3, [.ref w_38, .ref y_39, .int 0]))] := hD
  refine W.widen (k := 21) (n := 547) (Nat.le_of_ble_eq_true rfl) (Nat.le_of_ble_eq_true rfl) ?_
  refine va_putF (D := D) (ci := 6) (v := .ref q_34) (ty := .object "CommonUnits$Sightings") (C := RX8) (T := TX8) (N := 10) hx hb hg cu_iX8 tyX8 tyX8_ok nmX8 hown hK.1 hP hD hS 0 rfl rfl 5 (by decide) (hg _ k_184) (fun _ h9 => h9) rfl hin rfl (by decide +kernel) rfl rfl (Nat.le_of_ble_eq_true rfl) d_X8_init_67 (fun H locs hP hD hS => ?_)
  have hP : va_P D vwCl [(x, .inr (6, [.ref q_1, .ref q_6, .ref q_14, .ref q_22, .ref q_29, .ref q_34, .null, .null, .null, .long 0])), (q_1, .inr (5, [.ref w_5, .int 0])), (w_5, .inl (cI, 130, .inl (fun _ => 0))), (q_6, .inr (2, [.ref w_10, .ref y_11, .ref a_12, .ref u_13, .int 0, .int 0, .int 1, .int 0])), (w_10, .inl (cI, 12, .inl (fun _ => 0))), (y_11, .inl (cI, 12, .inl (fun _ => 0))), (a_12, .inl (cI, 12, .inl (fun _ => 0))), (u_13, .inl (cI, 3, .inl (fun _ => 0))), (q_14, .inr (2, [.ref w_18, .ref y_19, .ref a_20, .ref u_21, .int 0, .int 0, .int 1, .int 0])), (w_18, .inl (cI, 12, .inl (fun _ => 0))), (y_19, .inl (cI, 12, .inl (fun _ => 0))), (a_20, .inl (cI, 12, .inl (fun _ => 0))), (u_21, .inl (cI, 3, .inl (fun _ => 0))), (q_22, .inr (0, [.ref w_26, .ref y_27, .ref a_28, .int 0, .int 0])), (w_26, .inl (cI, 14, .inl (fun _ => 0))), (y_27, .inl (cI, 14, .inl (fun _ => 0))), (a_28, .inl (cI, 14, .inl (fun _ => 0))), (q_29, .inr (1, [.ref w_33, .int 0, .int 0])), (w_33, .inl (cI, 256, .inl (fun _ => 0))), (q_34, .inr (3, [.ref w_38, .ref y_39, .int 0]))] H := hP
  have hD : va_D A [(x, .inr (6, [.ref q_1, .ref q_6, .ref q_14, .ref q_22, .ref q_29, .ref q_34, .null, .null, .null, .long 0])), (q_1, .inr (5, [.ref w_5, .int 0])), (w_5, .inl (cI, 130, .inl (fun _ => 0))), (q_6, .inr (2, [.ref w_10, .ref y_11, .ref a_12, .ref u_13, .int 0, .int 0, .int 1, .int 0])), (w_10, .inl (cI, 12, .inl (fun _ => 0))), (y_11, .inl (cI, 12, .inl (fun _ => 0))), (a_12, .inl (cI, 12, .inl (fun _ => 0))), (u_13, .inl (cI, 3, .inl (fun _ => 0))), (q_14, .inr (2, [.ref w_18, .ref y_19, .ref a_20, .ref u_21, .int 0, .int 0, .int 1, .int 0])), (w_18, .inl (cI, 12, .inl (fun _ => 0))), (y_19, .inl (cI, 12, .inl (fun _ => 0))), (a_20, .inl (cI, 12, .inl (fun _ => 0))), (u_21, .inl (cI, 3, .inl (fun _ => 0))), (q_22, .inr (0, [.ref w_26, .ref y_27, .ref a_28, .int 0, .int 0])), (w_26, .inl (cI, 14, .inl (fun _ => 0))), (y_27, .inl (cI, 14, .inl (fun _ => 0))), (a_28, .inl (cI, 14, .inl (fun _ => 0))), (q_29, .inr (1, [.ref w_33, .int 0, .int 0])), (w_33, .inl (cI, 256, .inl (fun _ => 0))), (q_34, .inr (3, [.ref w_38, .ref y_39, .int 0]))] := hD
  refine lv_aload_n hx hb d_X8_init_70 rfl (lv_at hl 0 rfl) ?_
  refine lv_iconst (v := 2) hx hb d_X8_init_71 (by decide) ?_
  refine cu_newH 2 hx hb hown (hg _ k_78) hK hP hD hS hA (by decide) (by decide +kernel) (Nat.le_of_ble_eq_true rfl) (Nat.le_of_ble_eq_true rfl) (Nat.le_of_ble_eq_true rfl) d_X8_init_72 (fun q_40 H hP hD hS => ?_)
  have hP : va_P D vwCl [(x, .inr (6, [.ref q_1, .ref q_6, .ref q_14, .ref q_22, .ref q_29, .ref q_34, .null, .null, .null, .long 0])), (q_1, .inr (5, [.ref w_5, .int 0])), (w_5, .inl (cI, 130, .inl (fun _ => 0))), (q_6, .inr (2, [.ref w_10, .ref y_11, .ref a_12, .ref u_13, .int 0, .int 0, .int 1, .int 0])), (w_10, .inl (cI, 12, .inl (fun _ => 0))), (y_11, .inl (cI, 12, .inl (fun _ => 0))), (a_12, .inl (cI, 12, .inl (fun _ => 0))), (u_13, .inl (cI, 3, .inl (fun _ => 0))), (q_14, .inr (2, [.ref w_18, .ref y_19, .ref a_20, .ref u_21, .int 0, .int 0, .int 1, .int 0])), (w_18, .inl (cI, 12, .inl (fun _ => 0))), (y_19, .inl (cI, 12, .inl (fun _ => 0))), (a_20, .inl (cI, 12, .inl (fun _ => 0))), (u_21, .inl (cI, 3, .inl (fun _ => 0))), (q_22, .inr (0, [.ref w_26, .ref y_27, .ref a_28, .int 0, .int 0])), (w_26, .inl (cI, 14, .inl (fun _ => 0))), (y_27, .inl (cI, 14, .inl (fun _ => 0))), (a_28, .inl (cI, 14, .inl (fun _ => 0))), (q_29, .inr (1, [.ref w_33, .int 0, .int 0])), (w_33, .inl (cI, 256, .inl (fun _ => 0))), (q_34, .inr (3, [.ref w_38, .ref y_39, .int 0])), (q_40, .inl (cQ, 2, .inr (.inr (.inr (.inr (fun _ => none))))))] H := hP
  have hD : va_D A [(x, .inr (6, [.ref q_1, .ref q_6, .ref q_14, .ref q_22, .ref q_29, .ref q_34, .null, .null, .null, .long 0])), (q_1, .inr (5, [.ref w_5, .int 0])), (w_5, .inl (cI, 130, .inl (fun _ => 0))), (q_6, .inr (2, [.ref w_10, .ref y_11, .ref a_12, .ref u_13, .int 0, .int 0, .int 1, .int 0])), (w_10, .inl (cI, 12, .inl (fun _ => 0))), (y_11, .inl (cI, 12, .inl (fun _ => 0))), (a_12, .inl (cI, 12, .inl (fun _ => 0))), (u_13, .inl (cI, 3, .inl (fun _ => 0))), (q_14, .inr (2, [.ref w_18, .ref y_19, .ref a_20, .ref u_21, .int 0, .int 0, .int 1, .int 0])), (w_18, .inl (cI, 12, .inl (fun _ => 0))), (y_19, .inl (cI, 12, .inl (fun _ => 0))), (a_20, .inl (cI, 12, .inl (fun _ => 0))), (u_21, .inl (cI, 3, .inl (fun _ => 0))), (q_22, .inr (0, [.ref w_26, .ref y_27, .ref a_28, .int 0, .int 0])), (w_26, .inl (cI, 14, .inl (fun _ => 0))), (y_27, .inl (cI, 14, .inl (fun _ => 0))), (a_28, .inl (cI, 14, .inl (fun _ => 0))), (q_29, .inr (1, [.ref w_33, .int 0, .int 0])), (w_33, .inl (cI, 256, .inl (fun _ => 0))), (q_34, .inr (3, [.ref w_38, .ref y_39, .int 0])), (q_40, .inl (cQ, 2, .inr (.inr (.inr (.inr (fun _ => none))))))] := hD
  refine W.widen (k := 22) (n := 549) (Nat.le_of_ble_eq_true rfl) (Nat.le_of_ble_eq_true rfl) ?_
  refine va_putF (D := D) (ci := 6) (v := .ref q_40) (ty := .array (.object "CommonUnits$Hoard")) (C := RX8) (T := TX8) (N := 10) hx hb hg cu_iX8 tyX8 tyX8_ok nmX8 hown hK.1 hP hD hS 0 rfl rfl 6 (by decide) (hg _ k_185) (fun _ h9 => h9) rfl hin rfl (by decide +kernel) rfl rfl (Nat.le_of_ble_eq_true rfl) d_X8_init_75 (fun H locs hP hD hS => ?_)
  have hP : va_P D vwCl [(x, .inr (6, [.ref q_1, .ref q_6, .ref q_14, .ref q_22, .ref q_29, .ref q_34, .ref q_40, .null, .null, .long 0])), (q_1, .inr (5, [.ref w_5, .int 0])), (w_5, .inl (cI, 130, .inl (fun _ => 0))), (q_6, .inr (2, [.ref w_10, .ref y_11, .ref a_12, .ref u_13, .int 0, .int 0, .int 1, .int 0])), (w_10, .inl (cI, 12, .inl (fun _ => 0))), (y_11, .inl (cI, 12, .inl (fun _ => 0))), (a_12, .inl (cI, 12, .inl (fun _ => 0))), (u_13, .inl (cI, 3, .inl (fun _ => 0))), (q_14, .inr (2, [.ref w_18, .ref y_19, .ref a_20, .ref u_21, .int 0, .int 0, .int 1, .int 0])), (w_18, .inl (cI, 12, .inl (fun _ => 0))), (y_19, .inl (cI, 12, .inl (fun _ => 0))), (a_20, .inl (cI, 12, .inl (fun _ => 0))), (u_21, .inl (cI, 3, .inl (fun _ => 0))), (q_22, .inr (0, [.ref w_26, .ref y_27, .ref a_28, .int 0, .int 0])), (w_26, .inl (cI, 14, .inl (fun _ => 0))), (y_27, .inl (cI, 14, .inl (fun _ => 0))), (a_28, .inl (cI, 14, .inl (fun _ => 0))), (q_29, .inr (1, [.ref w_33, .int 0, .int 0])), (w_33, .inl (cI, 256, .inl (fun _ => 0))), (q_34, .inr (3, [.ref w_38, .ref y_39, .int 0])), (q_40, .inl (cQ, 2, .inr (.inr (.inr (.inr (fun _ => none))))))] H := hP
  have hD : va_D A [(x, .inr (6, [.ref q_1, .ref q_6, .ref q_14, .ref q_22, .ref q_29, .ref q_34, .ref q_40, .null, .null, .long 0])), (q_1, .inr (5, [.ref w_5, .int 0])), (w_5, .inl (cI, 130, .inl (fun _ => 0))), (q_6, .inr (2, [.ref w_10, .ref y_11, .ref a_12, .ref u_13, .int 0, .int 0, .int 1, .int 0])), (w_10, .inl (cI, 12, .inl (fun _ => 0))), (y_11, .inl (cI, 12, .inl (fun _ => 0))), (a_12, .inl (cI, 12, .inl (fun _ => 0))), (u_13, .inl (cI, 3, .inl (fun _ => 0))), (q_14, .inr (2, [.ref w_18, .ref y_19, .ref a_20, .ref u_21, .int 0, .int 0, .int 1, .int 0])), (w_18, .inl (cI, 12, .inl (fun _ => 0))), (y_19, .inl (cI, 12, .inl (fun _ => 0))), (a_20, .inl (cI, 12, .inl (fun _ => 0))), (u_21, .inl (cI, 3, .inl (fun _ => 0))), (q_22, .inr (0, [.ref w_26, .ref y_27, .ref a_28, .int 0, .int 0])), (w_26, .inl (cI, 14, .inl (fun _ => 0))), (y_27, .inl (cI, 14, .inl (fun _ => 0))), (a_28, .inl (cI, 14, .inl (fun _ => 0))), (q_29, .inr (1, [.ref w_33, .int 0, .int 0])), (w_33, .inl (cI, 256, .inl (fun _ => 0))), (q_34, .inr (3, [.ref w_38, .ref y_39, .int 0])), (q_40, .inl (cQ, 2, .inr (.inr (.inr (.inr (fun _ => none))))))] := hD
  refine lv_aload_n hx hb d_X8_init_78 rfl (lv_at hl 0 rfl) ?_
  refine lv_iconst (v := 2) hx hb d_X8_init_79 (by decide) ?_
  refine cu_newZ 2 hx hb (hg _ k_177) hK hP hD hS hA (by decide) (by decide +kernel) (Nat.le_of_ble_eq_true rfl) (Nat.le_of_ble_eq_true rfl) (Nat.le_of_ble_eq_true rfl) d_X8_init_80 (fun q_41 H hP hD hS => ?_)
  have hP : va_P D vwCl [(x, .inr (6, [.ref q_1, .ref q_6, .ref q_14, .ref q_22, .ref q_29, .ref q_34, .ref q_40, .null, .null, .long 0])), (q_1, .inr (5, [.ref w_5, .int 0])), (w_5, .inl (cI, 130, .inl (fun _ => 0))), (q_6, .inr (2, [.ref w_10, .ref y_11, .ref a_12, .ref u_13, .int 0, .int 0, .int 1, .int 0])), (w_10, .inl (cI, 12, .inl (fun _ => 0))), (y_11, .inl (cI, 12, .inl (fun _ => 0))), (a_12, .inl (cI, 12, .inl (fun _ => 0))), (u_13, .inl (cI, 3, .inl (fun _ => 0))), (q_14, .inr (2, [.ref w_18, .ref y_19, .ref a_20, .ref u_21, .int 0, .int 0, .int 1, .int 0])), (w_18, .inl (cI, 12, .inl (fun _ => 0))), (y_19, .inl (cI, 12, .inl (fun _ => 0))), (a_20, .inl (cI, 12, .inl (fun _ => 0))), (u_21, .inl (cI, 3, .inl (fun _ => 0))), (q_22, .inr (0, [.ref w_26, .ref y_27, .ref a_28, .int 0, .int 0])), (w_26, .inl (cI, 14, .inl (fun _ => 0))), (y_27, .inl (cI, 14, .inl (fun _ => 0))), (a_28, .inl (cI, 14, .inl (fun _ => 0))), (q_29, .inr (1, [.ref w_33, .int 0, .int 0])), (w_33, .inl (cI, 256, .inl (fun _ => 0))), (q_34, .inr (3, [.ref w_38, .ref y_39, .int 0])), (q_40, .inl (cQ, 2, .inr (.inr (.inr (.inr (fun _ => none)))))), (q_41, .inl (cZ, 2, .inl (fun _ => 0)))] H := hP
  have hD : va_D A [(x, .inr (6, [.ref q_1, .ref q_6, .ref q_14, .ref q_22, .ref q_29, .ref q_34, .ref q_40, .null, .null, .long 0])), (q_1, .inr (5, [.ref w_5, .int 0])), (w_5, .inl (cI, 130, .inl (fun _ => 0))), (q_6, .inr (2, [.ref w_10, .ref y_11, .ref a_12, .ref u_13, .int 0, .int 0, .int 1, .int 0])), (w_10, .inl (cI, 12, .inl (fun _ => 0))), (y_11, .inl (cI, 12, .inl (fun _ => 0))), (a_12, .inl (cI, 12, .inl (fun _ => 0))), (u_13, .inl (cI, 3, .inl (fun _ => 0))), (q_14, .inr (2, [.ref w_18, .ref y_19, .ref a_20, .ref u_21, .int 0, .int 0, .int 1, .int 0])), (w_18, .inl (cI, 12, .inl (fun _ => 0))), (y_19, .inl (cI, 12, .inl (fun _ => 0))), (a_20, .inl (cI, 12, .inl (fun _ => 0))), (u_21, .inl (cI, 3, .inl (fun _ => 0))), (q_22, .inr (0, [.ref w_26, .ref y_27, .ref a_28, .int 0, .int 0])), (w_26, .inl (cI, 14, .inl (fun _ => 0))), (y_27, .inl (cI, 14, .inl (fun _ => 0))), (a_28, .inl (cI, 14, .inl (fun _ => 0))), (q_29, .inr (1, [.ref w_33, .int 0, .int 0])), (w_33, .inl (cI, 256, .inl (fun _ => 0))), (q_34, .inr (3, [.ref w_38, .ref y_39, .int 0])), (q_40, .inl (cQ, 2, .inr (.inr (.inr (.inr (fun _ => none)))))), (q_41, .inl (cZ, 2, .inl (fun _ => 0)))] := hD
  refine W.widen (k := 23) (n := 551) (Nat.le_of_ble_eq_true rfl) (Nat.le_of_ble_eq_true rfl) ?_
  refine va_putF (D := D) (ci := 6) (v := .ref q_41) (ty := .array .boolean) (C := RX8) (T := TX8) (N := 10) hx hb hg cu_iX8 tyX8 tyX8_ok nmX8 hown hK.1 hP hD hS 0 rfl rfl 7 (by decide) (hg _ k_186) (fun _ h9 => h9) rfl hin rfl (by decide +kernel) rfl rfl (Nat.le_of_ble_eq_true rfl) d_X8_init_82 (fun H locs hP hD hS => ?_)
  have hP : va_P D vwCl [(x, .inr (6, [.ref q_1, .ref q_6, .ref q_14, .ref q_22, .ref q_29, .ref q_34, .ref q_40, .ref q_41, .null, .long 0])), (q_1, .inr (5, [.ref w_5, .int 0])), (w_5, .inl (cI, 130, .inl (fun _ => 0))), (q_6, .inr (2, [.ref w_10, .ref y_11, .ref a_12, .ref u_13, .int 0, .int 0, .int 1, .int 0])), (w_10, .inl (cI, 12, .inl (fun _ => 0))), (y_11, .inl (cI, 12, .inl (fun _ => 0))), (a_12, .inl (cI, 12, .inl (fun _ => 0))), (u_13, .inl (cI, 3, .inl (fun _ => 0))), (q_14, .inr (2, [.ref w_18, .ref y_19, .ref a_20, .ref u_21, .int 0, .int 0, .int 1, .int 0])), (w_18, .inl (cI, 12, .inl (fun _ => 0))), (y_19, .inl (cI, 12, .inl (fun _ => 0))), (a_20, .inl (cI, 12, .inl (fun _ => 0))), (u_21, .inl (cI, 3, .inl (fun _ => 0))), (q_22, .inr (0, [.ref w_26, .ref y_27, .ref a_28, .int 0, .int 0])), (w_26, .inl (cI, 14, .inl (fun _ => 0))), (y_27, .inl (cI, 14, .inl (fun _ => 0))), (a_28, .inl (cI, 14, .inl (fun _ => 0))), (q_29, .inr (1, [.ref w_33, .int 0, .int 0])), (w_33, .inl (cI, 256, .inl (fun _ => 0))), (q_34, .inr (3, [.ref w_38, .ref y_39, .int 0])), (q_40, .inl (cQ, 2, .inr (.inr (.inr (.inr (fun _ => none)))))), (q_41, .inl (cZ, 2, .inl (fun _ => 0)))] H := hP
  have hD : va_D A [(x, .inr (6, [.ref q_1, .ref q_6, .ref q_14, .ref q_22, .ref q_29, .ref q_34, .ref q_40, .ref q_41, .null, .long 0])), (q_1, .inr (5, [.ref w_5, .int 0])), (w_5, .inl (cI, 130, .inl (fun _ => 0))), (q_6, .inr (2, [.ref w_10, .ref y_11, .ref a_12, .ref u_13, .int 0, .int 0, .int 1, .int 0])), (w_10, .inl (cI, 12, .inl (fun _ => 0))), (y_11, .inl (cI, 12, .inl (fun _ => 0))), (a_12, .inl (cI, 12, .inl (fun _ => 0))), (u_13, .inl (cI, 3, .inl (fun _ => 0))), (q_14, .inr (2, [.ref w_18, .ref y_19, .ref a_20, .ref u_21, .int 0, .int 0, .int 1, .int 0])), (w_18, .inl (cI, 12, .inl (fun _ => 0))), (y_19, .inl (cI, 12, .inl (fun _ => 0))), (a_20, .inl (cI, 12, .inl (fun _ => 0))), (u_21, .inl (cI, 3, .inl (fun _ => 0))), (q_22, .inr (0, [.ref w_26, .ref y_27, .ref a_28, .int 0, .int 0])), (w_26, .inl (cI, 14, .inl (fun _ => 0))), (y_27, .inl (cI, 14, .inl (fun _ => 0))), (a_28, .inl (cI, 14, .inl (fun _ => 0))), (q_29, .inr (1, [.ref w_33, .int 0, .int 0])), (w_33, .inl (cI, 256, .inl (fun _ => 0))), (q_34, .inr (3, [.ref w_38, .ref y_39, .int 0])), (q_40, .inl (cQ, 2, .inr (.inr (.inr (.inr (fun _ => none)))))), (q_41, .inl (cZ, 2, .inl (fun _ => 0)))] := hD
  refine lv_iconst (v := 0) hx hb d_X8_init_85 (by decide) ?_
  refine lv_istore_n (lv' := [(1, .int 0), (0, .ref x)]) hx hb d_X8_init_86 rfl hl (by decide) rfl (fun ls hl => ?_)
  refine lv_iload_n hx hb d_X8_init_87 rfl (lv_at hl 0 rfl) ?_
  refine lv_iconst (v := 2) hx hb d_X8_init_88 (by decide) ?_
  refine lv_icmp_ge (tgt := 111) hx hb d_X8_init_89 (by decide) (fun c_42 => absurd c_42 (by decide +kernel)) (fun _ => ?_)
  refine lv_aload_n hx hb d_X8_init_92 rfl (lv_at hl 1 rfl) ?_
  refine va_get (D := D) (ci := 6) (v := .ref q_40) (C := RX8) (T := TX8) (N := 10) hx hb hg cu_iX8 hown hK.1 hP 0 rfl rfl 6 (by decide) (hg _ k_185) (fun _ h9 => h9) rfl d_X8_init_93 ?_
  refine lv_iload_n hx hb d_X8_init_96 rfl (lv_at hl 0 rfl) ?_
  refine va_new (ci := 2) (fs := [.null, .null, .null, .null, .int 0, .int 0, .int 0, .int 0]) (C := RX3) (T := TX3) (N := 8) hx hb hg cu_iX3 tyX3 tyX3_ok hown (hg _ k_78) (hg _ k_79) (hg _ k_45) hK.1 hP hD hS hA rfl (fun j hj => by rcases (show j = 0 ∨ j = 1 ∨ j = 2 ∨ j = 3 ∨ j = 4 ∨ j = 5 ∨ j = 6 ∨ j = 7 by omega) with rfl | rfl | rfl | rfl | rfl | rfl | rfl | rfl <;> rfl) (Nat.le_of_ble_eq_true rfl) (Nat.le_of_ble_eq_true rfl) d_X8_init_97 (fun q_43 H hP hD hS => ?_)
  have hP : va_P D vwCl [(x, .inr (6, [.ref q_1, .ref q_6, .ref q_14, .ref q_22, .ref q_29, .ref q_34, .ref q_40, .ref q_41, .null, .long 0])), (q_1, .inr (5, [.ref w_5, .int 0])), (w_5, .inl (cI, 130, .inl (fun _ => 0))), (q_6, .inr (2, [.ref w_10, .ref y_11, .ref a_12, .ref u_13, .int 0, .int 0, .int 1, .int 0])), (w_10, .inl (cI, 12, .inl (fun _ => 0))), (y_11, .inl (cI, 12, .inl (fun _ => 0))), (a_12, .inl (cI, 12, .inl (fun _ => 0))), (u_13, .inl (cI, 3, .inl (fun _ => 0))), (q_14, .inr (2, [.ref w_18, .ref y_19, .ref a_20, .ref u_21, .int 0, .int 0, .int 1, .int 0])), (w_18, .inl (cI, 12, .inl (fun _ => 0))), (y_19, .inl (cI, 12, .inl (fun _ => 0))), (a_20, .inl (cI, 12, .inl (fun _ => 0))), (u_21, .inl (cI, 3, .inl (fun _ => 0))), (q_22, .inr (0, [.ref w_26, .ref y_27, .ref a_28, .int 0, .int 0])), (w_26, .inl (cI, 14, .inl (fun _ => 0))), (y_27, .inl (cI, 14, .inl (fun _ => 0))), (a_28, .inl (cI, 14, .inl (fun _ => 0))), (q_29, .inr (1, [.ref w_33, .int 0, .int 0])), (w_33, .inl (cI, 256, .inl (fun _ => 0))), (q_34, .inr (3, [.ref w_38, .ref y_39, .int 0])), (q_40, .inl (cQ, 2, .inr (.inr (.inr (.inr (fun _ => none)))))), (q_41, .inl (cZ, 2, .inl (fun _ => 0))), (q_43, .inr (2, [.null, .null, .null, .null, .int 0, .int 0, .int 0, .int 0]))] H := hP
  have hD : va_D A [(x, .inr (6, [.ref q_1, .ref q_6, .ref q_14, .ref q_22, .ref q_29, .ref q_34, .ref q_40, .ref q_41, .null, .long 0])), (q_1, .inr (5, [.ref w_5, .int 0])), (w_5, .inl (cI, 130, .inl (fun _ => 0))), (q_6, .inr (2, [.ref w_10, .ref y_11, .ref a_12, .ref u_13, .int 0, .int 0, .int 1, .int 0])), (w_10, .inl (cI, 12, .inl (fun _ => 0))), (y_11, .inl (cI, 12, .inl (fun _ => 0))), (a_12, .inl (cI, 12, .inl (fun _ => 0))), (u_13, .inl (cI, 3, .inl (fun _ => 0))), (q_14, .inr (2, [.ref w_18, .ref y_19, .ref a_20, .ref u_21, .int 0, .int 0, .int 1, .int 0])), (w_18, .inl (cI, 12, .inl (fun _ => 0))), (y_19, .inl (cI, 12, .inl (fun _ => 0))), (a_20, .inl (cI, 12, .inl (fun _ => 0))), (u_21, .inl (cI, 3, .inl (fun _ => 0))), (q_22, .inr (0, [.ref w_26, .ref y_27, .ref a_28, .int 0, .int 0])), (w_26, .inl (cI, 14, .inl (fun _ => 0))), (y_27, .inl (cI, 14, .inl (fun _ => 0))), (a_28, .inl (cI, 14, .inl (fun _ => 0))), (q_29, .inr (1, [.ref w_33, .int 0, .int 0])), (w_33, .inl (cI, 256, .inl (fun _ => 0))), (q_34, .inr (3, [.ref w_38, .ref y_39, .int 0])), (q_40, .inl (cQ, 2, .inr (.inr (.inr (.inr (fun _ => none)))))), (q_41, .inl (cZ, 2, .inl (fun _ => 0))), (q_43, .inr (2, [.null, .null, .null, .null, .int 0, .int 0, .int 0, .int 0]))] := hD
  refine W.widen (k := 24) (n := 559) (Nat.le_of_ble_eq_true rfl) (Nat.le_of_ble_eq_true rfl) ?_
  refine lv_dup hx hb d_X8_init_100 rfl ?_
  refine cu_NV (wc := [(q_43, .inr (2, [.null, .null, .null, .null, .int 0, .int 0, .int 0, .int 0]))]) (wr := [(x, .inr (6, [.ref q_1, .ref q_6, .ref q_14, .ref q_22, .ref q_29, .ref q_34, .ref q_40, .ref q_41, .null, .long 0])), (q_1, .inr (5, [.ref w_5, .int 0])), (w_5, .inl (cI, 130, .inl (fun _ => 0))), (q_6, .inr (2, [.ref w_10, .ref y_11, .ref a_12, .ref u_13, .int 0, .int 0, .int 1, .int 0])), (w_10, .inl (cI, 12, .inl (fun _ => 0))), (y_11, .inl (cI, 12, .inl (fun _ => 0))), (a_12, .inl (cI, 12, .inl (fun _ => 0))), (u_13, .inl (cI, 3, .inl (fun _ => 0))), (q_14, .inr (2, [.ref w_18, .ref y_19, .ref a_20, .ref u_21, .int 0, .int 0, .int 1, .int 0])), (w_18, .inl (cI, 12, .inl (fun _ => 0))), (y_19, .inl (cI, 12, .inl (fun _ => 0))), (a_20, .inl (cI, 12, .inl (fun _ => 0))), (u_21, .inl (cI, 3, .inl (fun _ => 0))), (q_22, .inr (0, [.ref w_26, .ref y_27, .ref a_28, .int 0, .int 0])), (w_26, .inl (cI, 14, .inl (fun _ => 0))), (y_27, .inl (cI, 14, .inl (fun _ => 0))), (a_28, .inl (cI, 14, .inl (fun _ => 0))), (q_29, .inr (1, [.ref w_33, .int 0, .int 0])), (w_33, .inl (cI, 256, .inl (fun _ => 0))), (q_34, .inr (3, [.ref w_38, .ref y_39, .int 0])), (q_40, .inl (cQ, 2, .inr (.inr (.inr (.inr (fun _ => none)))))), (q_41, .inl (cZ, 2, .inl (fun _ => 0)))]) (rest := [.ref q_43, .int 0, .ref q_40]) [] ⟨hx, hb, hml, hown, hg⟩ (c_X3_init l D cI cZ cQ q_43) hd_X3_init k_82 hK.2.2.2.1 k_81 k_45 rfl ⟨Nat.le_of_ble_eq_true rfl, Nat.le_of_ble_eq_true rfl⟩ ⟨Nat.le_of_ble_eq_true rfl, Nat.le_of_ble_eq_true rfl⟩ hP hD hS hA hK [22] [0, 1, 2, 3, 4, 5, 6, 7, 8, 9, 10, 11, 12, 13, 14, 15, 16, 17, 18, 19, 20, 21] rfl rfl (by decide) (by decide) (by decide) rfl hl.1 rfl (Nat.le_of_ble_eq_true rfl) d_X8_init_101 (fun w_46 H locs hw_45 hP hD hS => ?_)
  obtain ⟨w_47, y_48, a_49, u_50, rfl⟩ := hw_45
  have hP : va_P D vwCl [(x, .inr (6, [.ref q_1, .ref q_6, .ref q_14, .ref q_22, .ref q_29, .ref q_34, .ref q_40, .ref q_41, .null, .long 0])), (q_1, .inr (5, [.ref w_5, .int 0])), (w_5, .inl (cI, 130, .inl (fun _ => 0))), (q_6, .inr (2, [.ref w_10, .ref y_11, .ref a_12, .ref u_13, .int 0, .int 0, .int 1, .int 0])), (w_10, .inl (cI, 12, .inl (fun _ => 0))), (y_11, .inl (cI, 12, .inl (fun _ => 0))), (a_12, .inl (cI, 12, .inl (fun _ => 0))), (u_13, .inl (cI, 3, .inl (fun _ => 0))), (q_14, .inr (2, [.ref w_18, .ref y_19, .ref a_20, .ref u_21, .int 0, .int 0, .int 1, .int 0])), (w_18, .inl (cI, 12, .inl (fun _ => 0))), (y_19, .inl (cI, 12, .inl (fun _ => 0))), (a_20, .inl (cI, 12, .inl (fun _ => 0))), (u_21, .inl (cI, 3, .inl (fun _ => 0))), (q_22, .inr (0, [.ref w_26, .ref y_27, .ref a_28, .int 0, .int 0])), (w_26, .inl (cI, 14, .inl (fun _ => 0))), (y_27, .inl (cI, 14, .inl (fun _ => 0))), (a_28, .inl (cI, 14, .inl (fun _ => 0))), (q_29, .inr (1, [.ref w_33, .int 0, .int 0])), (w_33, .inl (cI, 256, .inl (fun _ => 0))), (q_34, .inr (3, [.ref w_38, .ref y_39, .int 0])), (q_40, .inl (cQ, 2, .inr (.inr (.inr (.inr (fun _ => none)))))), (q_41, .inl (cZ, 2, .inl (fun _ => 0))), (q_43, .inr (2, [.ref w_47, .ref y_48, .ref a_49, .ref u_50, .int 0, .int 0, .int 1, .int 0])), (w_47, .inl (cI, 12, .inl (fun _ => 0))), (y_48, .inl (cI, 12, .inl (fun _ => 0))), (a_49, .inl (cI, 12, .inl (fun _ => 0))), (u_50, .inl (cI, 3, .inl (fun _ => 0)))] H := hP
  have hD : va_D A [(x, .inr (6, [.ref q_1, .ref q_6, .ref q_14, .ref q_22, .ref q_29, .ref q_34, .ref q_40, .ref q_41, .null, .long 0])), (q_1, .inr (5, [.ref w_5, .int 0])), (w_5, .inl (cI, 130, .inl (fun _ => 0))), (q_6, .inr (2, [.ref w_10, .ref y_11, .ref a_12, .ref u_13, .int 0, .int 0, .int 1, .int 0])), (w_10, .inl (cI, 12, .inl (fun _ => 0))), (y_11, .inl (cI, 12, .inl (fun _ => 0))), (a_12, .inl (cI, 12, .inl (fun _ => 0))), (u_13, .inl (cI, 3, .inl (fun _ => 0))), (q_14, .inr (2, [.ref w_18, .ref y_19, .ref a_20, .ref u_21, .int 0, .int 0, .int 1, .int 0])), (w_18, .inl (cI, 12, .inl (fun _ => 0))), (y_19, .inl (cI, 12, .inl (fun _ => 0))), (a_20, .inl (cI, 12, .inl (fun _ => 0))), (u_21, .inl (cI, 3, .inl (fun _ => 0))), (q_22, .inr (0, [.ref w_26, .ref y_27, .ref a_28, .int 0, .int 0])), (w_26, .inl (cI, 14, .inl (fun _ => 0))), (y_27, .inl (cI, 14, .inl (fun _ => 0))), (a_28, .inl (cI, 14, .inl (fun _ => 0))), (q_29, .inr (1, [.ref w_33, .int 0, .int 0])), (w_33, .inl (cI, 256, .inl (fun _ => 0))), (q_34, .inr (3, [.ref w_38, .ref y_39, .int 0])), (q_40, .inl (cQ, 2, .inr (.inr (.inr (.inr (fun _ => none)))))), (q_41, .inl (cZ, 2, .inl (fun _ => 0))), (q_43, .inr (2, [.ref w_47, .ref y_48, .ref a_49, .ref u_50, .int 0, .int 0, .int 1, .int 0])), (w_47, .inl (cI, 12, .inl (fun _ => 0))), (y_48, .inl (cI, 12, .inl (fun _ => 0))), (a_49, .inl (cI, 12, .inl (fun _ => 0))), (u_50, .inl (cI, 3, .inl (fun _ => 0)))] := hD
  refine W.widen (k := 28) (n := 598) (Nat.le_of_ble_eq_true rfl) (Nat.le_of_ble_eq_true rfl) ?_
  refine va_astq hx hb hK.1 hP hD hS 20 2 22 2 rfl rfl rfl rfl (vp_in_nI (n := 0) (N := 2) (Nat.le_of_ble_eq_true rfl) (by decide)) d_X8_init_104 (fun H locs hP hD hS => ?_)
  have hP : va_P D vwCl [(x, .inr (6, [.ref q_1, .ref q_6, .ref q_14, .ref q_22, .ref q_29, .ref q_34, .ref q_40, .ref q_41, .null, .long 0])), (q_1, .inr (5, [.ref w_5, .int 0])), (w_5, .inl (cI, 130, .inl (fun _ => 0))), (q_6, .inr (2, [.ref w_10, .ref y_11, .ref a_12, .ref u_13, .int 0, .int 0, .int 1, .int 0])), (w_10, .inl (cI, 12, .inl (fun _ => 0))), (y_11, .inl (cI, 12, .inl (fun _ => 0))), (a_12, .inl (cI, 12, .inl (fun _ => 0))), (u_13, .inl (cI, 3, .inl (fun _ => 0))), (q_14, .inr (2, [.ref w_18, .ref y_19, .ref a_20, .ref u_21, .int 0, .int 0, .int 1, .int 0])), (w_18, .inl (cI, 12, .inl (fun _ => 0))), (y_19, .inl (cI, 12, .inl (fun _ => 0))), (a_20, .inl (cI, 12, .inl (fun _ => 0))), (u_21, .inl (cI, 3, .inl (fun _ => 0))), (q_22, .inr (0, [.ref w_26, .ref y_27, .ref a_28, .int 0, .int 0])), (w_26, .inl (cI, 14, .inl (fun _ => 0))), (y_27, .inl (cI, 14, .inl (fun _ => 0))), (a_28, .inl (cI, 14, .inl (fun _ => 0))), (q_29, .inr (1, [.ref w_33, .int 0, .int 0])), (w_33, .inl (cI, 256, .inl (fun _ => 0))), (q_34, .inr (3, [.ref w_38, .ref y_39, .int 0])), (q_40, .inl (cQ, 2, .inr (.inr (.inr (.inr (va_up (fun _ => none) 0 (some q_43))))))), (q_41, .inl (cZ, 2, .inl (fun _ => 0))), (q_43, .inr (2, [.ref w_47, .ref y_48, .ref a_49, .ref u_50, .int 0, .int 0, .int 1, .int 0])), (w_47, .inl (cI, 12, .inl (fun _ => 0))), (y_48, .inl (cI, 12, .inl (fun _ => 0))), (a_49, .inl (cI, 12, .inl (fun _ => 0))), (u_50, .inl (cI, 3, .inl (fun _ => 0)))] H := hP
  have hD : va_D A [(x, .inr (6, [.ref q_1, .ref q_6, .ref q_14, .ref q_22, .ref q_29, .ref q_34, .ref q_40, .ref q_41, .null, .long 0])), (q_1, .inr (5, [.ref w_5, .int 0])), (w_5, .inl (cI, 130, .inl (fun _ => 0))), (q_6, .inr (2, [.ref w_10, .ref y_11, .ref a_12, .ref u_13, .int 0, .int 0, .int 1, .int 0])), (w_10, .inl (cI, 12, .inl (fun _ => 0))), (y_11, .inl (cI, 12, .inl (fun _ => 0))), (a_12, .inl (cI, 12, .inl (fun _ => 0))), (u_13, .inl (cI, 3, .inl (fun _ => 0))), (q_14, .inr (2, [.ref w_18, .ref y_19, .ref a_20, .ref u_21, .int 0, .int 0, .int 1, .int 0])), (w_18, .inl (cI, 12, .inl (fun _ => 0))), (y_19, .inl (cI, 12, .inl (fun _ => 0))), (a_20, .inl (cI, 12, .inl (fun _ => 0))), (u_21, .inl (cI, 3, .inl (fun _ => 0))), (q_22, .inr (0, [.ref w_26, .ref y_27, .ref a_28, .int 0, .int 0])), (w_26, .inl (cI, 14, .inl (fun _ => 0))), (y_27, .inl (cI, 14, .inl (fun _ => 0))), (a_28, .inl (cI, 14, .inl (fun _ => 0))), (q_29, .inr (1, [.ref w_33, .int 0, .int 0])), (w_33, .inl (cI, 256, .inl (fun _ => 0))), (q_34, .inr (3, [.ref w_38, .ref y_39, .int 0])), (q_40, .inl (cQ, 2, .inr (.inr (.inr (.inr (va_up (fun _ => none) 0 (some q_43))))))), (q_41, .inl (cZ, 2, .inl (fun _ => 0))), (q_43, .inr (2, [.ref w_47, .ref y_48, .ref a_49, .ref u_50, .int 0, .int 0, .int 1, .int 0])), (w_47, .inl (cI, 12, .inl (fun _ => 0))), (y_48, .inl (cI, 12, .inl (fun _ => 0))), (a_49, .inl (cI, 12, .inl (fun _ => 0))), (u_50, .inl (cI, 3, .inl (fun _ => 0)))] := hD
  refine lv_iinc (v := 1) (lv' := [(1, .int 1), (0, .ref x)]) hx hb d_X8_init_105 hl (k := 0) rfl (by decide +kernel) (by decide) rfl (fun ls hl => ?_)
  refine lv_goto (tgt := 87) hx hb d_X8_init_108 (by decide) ?_
  refine lv_iload_n hx hb d_X8_init_87 rfl (lv_at hl 0 rfl) ?_
  refine lv_iconst (v := 2) hx hb d_X8_init_88 (by decide) ?_
  refine lv_icmp_ge (tgt := 111) hx hb d_X8_init_89 (by decide) (fun c_51 => absurd c_51 (by decide +kernel)) (fun _ => ?_)
  refine lv_aload_n hx hb d_X8_init_92 rfl (lv_at hl 1 rfl) ?_
  refine va_get (D := D) (ci := 6) (v := .ref q_40) (C := RX8) (T := TX8) (N := 10) hx hb hg cu_iX8 hown hK.1 hP 0 rfl rfl 6 (by decide) (hg _ k_185) (fun _ h9 => h9) rfl d_X8_init_93 ?_
  refine lv_iload_n hx hb d_X8_init_96 rfl (lv_at hl 0 rfl) ?_
  refine va_new (ci := 2) (fs := [.null, .null, .null, .null, .int 0, .int 0, .int 0, .int 0]) (C := RX3) (T := TX3) (N := 8) hx hb hg cu_iX3 tyX3 tyX3_ok hown (hg _ k_78) (hg _ k_79) (hg _ k_45) hK.1 hP hD hS hA rfl (fun j hj => by rcases (show j = 0 ∨ j = 1 ∨ j = 2 ∨ j = 3 ∨ j = 4 ∨ j = 5 ∨ j = 6 ∨ j = 7 by omega) with rfl | rfl | rfl | rfl | rfl | rfl | rfl | rfl <;> rfl) (Nat.le_of_ble_eq_true rfl) (Nat.le_of_ble_eq_true rfl) d_X8_init_97 (fun q_52 H hP hD hS => ?_)
  have hP : va_P D vwCl [(x, .inr (6, [.ref q_1, .ref q_6, .ref q_14, .ref q_22, .ref q_29, .ref q_34, .ref q_40, .ref q_41, .null, .long 0])), (q_1, .inr (5, [.ref w_5, .int 0])), (w_5, .inl (cI, 130, .inl (fun _ => 0))), (q_6, .inr (2, [.ref w_10, .ref y_11, .ref a_12, .ref u_13, .int 0, .int 0, .int 1, .int 0])), (w_10, .inl (cI, 12, .inl (fun _ => 0))), (y_11, .inl (cI, 12, .inl (fun _ => 0))), (a_12, .inl (cI, 12, .inl (fun _ => 0))), (u_13, .inl (cI, 3, .inl (fun _ => 0))), (q_14, .inr (2, [.ref w_18, .ref y_19, .ref a_20, .ref u_21, .int 0, .int 0, .int 1, .int 0])), (w_18, .inl (cI, 12, .inl (fun _ => 0))), (y_19, .inl (cI, 12, .inl (fun _ => 0))), (a_20, .inl (cI, 12, .inl (fun _ => 0))), (u_21, .inl (cI, 3, .inl (fun _ => 0))), (q_22, .inr (0, [.ref w_26, .ref y_27, .ref a_28, .int 0, .int 0])), (w_26, .inl (cI, 14, .inl (fun _ => 0))), (y_27, .inl (cI, 14, .inl (fun _ => 0))), (a_28, .inl (cI, 14, .inl (fun _ => 0))), (q_29, .inr (1, [.ref w_33, .int 0, .int 0])), (w_33, .inl (cI, 256, .inl (fun _ => 0))), (q_34, .inr (3, [.ref w_38, .ref y_39, .int 0])), (q_40, .inl (cQ, 2, .inr (.inr (.inr (.inr (va_up (fun _ => none) 0 (some q_43))))))), (q_41, .inl (cZ, 2, .inl (fun _ => 0))), (q_43, .inr (2, [.ref w_47, .ref y_48, .ref a_49, .ref u_50, .int 0, .int 0, .int 1, .int 0])), (w_47, .inl (cI, 12, .inl (fun _ => 0))), (y_48, .inl (cI, 12, .inl (fun _ => 0))), (a_49, .inl (cI, 12, .inl (fun _ => 0))), (u_50, .inl (cI, 3, .inl (fun _ => 0))), (q_52, .inr (2, [.null, .null, .null, .null, .int 0, .int 0, .int 0, .int 0]))] H := hP
  have hD : va_D A [(x, .inr (6, [.ref q_1, .ref q_6, .ref q_14, .ref q_22, .ref q_29, .ref q_34, .ref q_40, .ref q_41, .null, .long 0])), (q_1, .inr (5, [.ref w_5, .int 0])), (w_5, .inl (cI, 130, .inl (fun _ => 0))), (q_6, .inr (2, [.ref w_10, .ref y_11, .ref a_12, .ref u_13, .int 0, .int 0, .int 1, .int 0])), (w_10, .inl (cI, 12, .inl (fun _ => 0))), (y_11, .inl (cI, 12, .inl (fun _ => 0))), (a_12, .inl (cI, 12, .inl (fun _ => 0))), (u_13, .inl (cI, 3, .inl (fun _ => 0))), (q_14, .inr (2, [.ref w_18, .ref y_19, .ref a_20, .ref u_21, .int 0, .int 0, .int 1, .int 0])), (w_18, .inl (cI, 12, .inl (fun _ => 0))), (y_19, .inl (cI, 12, .inl (fun _ => 0))), (a_20, .inl (cI, 12, .inl (fun _ => 0))), (u_21, .inl (cI, 3, .inl (fun _ => 0))), (q_22, .inr (0, [.ref w_26, .ref y_27, .ref a_28, .int 0, .int 0])), (w_26, .inl (cI, 14, .inl (fun _ => 0))), (y_27, .inl (cI, 14, .inl (fun _ => 0))), (a_28, .inl (cI, 14, .inl (fun _ => 0))), (q_29, .inr (1, [.ref w_33, .int 0, .int 0])), (w_33, .inl (cI, 256, .inl (fun _ => 0))), (q_34, .inr (3, [.ref w_38, .ref y_39, .int 0])), (q_40, .inl (cQ, 2, .inr (.inr (.inr (.inr (va_up (fun _ => none) 0 (some q_43))))))), (q_41, .inl (cZ, 2, .inl (fun _ => 0))), (q_43, .inr (2, [.ref w_47, .ref y_48, .ref a_49, .ref u_50, .int 0, .int 0, .int 1, .int 0])), (w_47, .inl (cI, 12, .inl (fun _ => 0))), (y_48, .inl (cI, 12, .inl (fun _ => 0))), (a_49, .inl (cI, 12, .inl (fun _ => 0))), (u_50, .inl (cI, 3, .inl (fun _ => 0))), (q_52, .inr (2, [.null, .null, .null, .null, .int 0, .int 0, .int 0, .int 0]))] := hD
  refine W.widen (k := 29) (n := 606) (Nat.le_of_ble_eq_true rfl) (Nat.le_of_ble_eq_true rfl) ?_
  refine lv_dup hx hb d_X8_init_100 rfl ?_
  refine cu_NV (wc := [(q_52, .inr (2, [.null, .null, .null, .null, .int 0, .int 0, .int 0, .int 0]))]) (wr := [(x, .inr (6, [.ref q_1, .ref q_6, .ref q_14, .ref q_22, .ref q_29, .ref q_34, .ref q_40, .ref q_41, .null, .long 0])), (q_1, .inr (5, [.ref w_5, .int 0])), (w_5, .inl (cI, 130, .inl (fun _ => 0))), (q_6, .inr (2, [.ref w_10, .ref y_11, .ref a_12, .ref u_13, .int 0, .int 0, .int 1, .int 0])), (w_10, .inl (cI, 12, .inl (fun _ => 0))), (y_11, .inl (cI, 12, .inl (fun _ => 0))), (a_12, .inl (cI, 12, .inl (fun _ => 0))), (u_13, .inl (cI, 3, .inl (fun _ => 0))), (q_14, .inr (2, [.ref w_18, .ref y_19, .ref a_20, .ref u_21, .int 0, .int 0, .int 1, .int 0])), (w_18, .inl (cI, 12, .inl (fun _ => 0))), (y_19, .inl (cI, 12, .inl (fun _ => 0))), (a_20, .inl (cI, 12, .inl (fun _ => 0))), (u_21, .inl (cI, 3, .inl (fun _ => 0))), (q_22, .inr (0, [.ref w_26, .ref y_27, .ref a_28, .int 0, .int 0])), (w_26, .inl (cI, 14, .inl (fun _ => 0))), (y_27, .inl (cI, 14, .inl (fun _ => 0))), (a_28, .inl (cI, 14, .inl (fun _ => 0))), (q_29, .inr (1, [.ref w_33, .int 0, .int 0])), (w_33, .inl (cI, 256, .inl (fun _ => 0))), (q_34, .inr (3, [.ref w_38, .ref y_39, .int 0])), (q_40, .inl (cQ, 2, .inr (.inr (.inr (.inr (va_up (fun _ => none) 0 (some q_43))))))), (q_41, .inl (cZ, 2, .inl (fun _ => 0))), (q_43, .inr (2, [.ref w_47, .ref y_48, .ref a_49, .ref u_50, .int 0, .int 0, .int 1, .int 0])), (w_47, .inl (cI, 12, .inl (fun _ => 0))), (y_48, .inl (cI, 12, .inl (fun _ => 0))), (a_49, .inl (cI, 12, .inl (fun _ => 0))), (u_50, .inl (cI, 3, .inl (fun _ => 0)))]) (rest := [.ref q_52, .int 1, .ref q_40]) [] ⟨hx, hb, hml, hown, hg⟩ (c_X3_init l D cI cZ cQ q_52) hd_X3_init k_82 hK.2.2.2.1 k_81 k_45 rfl ⟨Nat.le_of_ble_eq_true rfl, Nat.le_of_ble_eq_true rfl⟩ ⟨Nat.le_of_ble_eq_true rfl, Nat.le_of_ble_eq_true rfl⟩ hP hD hS hA hK [27] [0, 1, 2, 3, 4, 5, 6, 7, 8, 9, 10, 11, 12, 13, 14, 15, 16, 17, 18, 19, 20, 21, 22, 23, 24, 25, 26] rfl rfl (by decide) (by decide) (by decide) rfl hl.1 rfl (Nat.le_of_ble_eq_true rfl) d_X8_init_101 (fun w_55 H locs hw_54 hP hD hS => ?_)
  obtain ⟨w_56, y_57, a_58, u_59, rfl⟩ := hw_54
  have hP : va_P D vwCl [(x, .inr (6, [.ref q_1, .ref q_6, .ref q_14, .ref q_22, .ref q_29, .ref q_34, .ref q_40, .ref q_41, .null, .long 0])), (q_1, .inr (5, [.ref w_5, .int 0])), (w_5, .inl (cI, 130, .inl (fun _ => 0))), (q_6, .inr (2, [.ref w_10, .ref y_11, .ref a_12, .ref u_13, .int 0, .int 0, .int 1, .int 0])), (w_10, .inl (cI, 12, .inl (fun _ => 0))), (y_11, .inl (cI, 12, .inl (fun _ => 0))), (a_12, .inl (cI, 12, .inl (fun _ => 0))), (u_13, .inl (cI, 3, .inl (fun _ => 0))), (q_14, .inr (2, [.ref w_18, .ref y_19, .ref a_20, .ref u_21, .int 0, .int 0, .int 1, .int 0])), (w_18, .inl (cI, 12, .inl (fun _ => 0))), (y_19, .inl (cI, 12, .inl (fun _ => 0))), (a_20, .inl (cI, 12, .inl (fun _ => 0))), (u_21, .inl (cI, 3, .inl (fun _ => 0))), (q_22, .inr (0, [.ref w_26, .ref y_27, .ref a_28, .int 0, .int 0])), (w_26, .inl (cI, 14, .inl (fun _ => 0))), (y_27, .inl (cI, 14, .inl (fun _ => 0))), (a_28, .inl (cI, 14, .inl (fun _ => 0))), (q_29, .inr (1, [.ref w_33, .int 0, .int 0])), (w_33, .inl (cI, 256, .inl (fun _ => 0))), (q_34, .inr (3, [.ref w_38, .ref y_39, .int 0])), (q_40, .inl (cQ, 2, .inr (.inr (.inr (.inr (va_up (fun _ => none) 0 (some q_43))))))), (q_41, .inl (cZ, 2, .inl (fun _ => 0))), (q_43, .inr (2, [.ref w_47, .ref y_48, .ref a_49, .ref u_50, .int 0, .int 0, .int 1, .int 0])), (w_47, .inl (cI, 12, .inl (fun _ => 0))), (y_48, .inl (cI, 12, .inl (fun _ => 0))), (a_49, .inl (cI, 12, .inl (fun _ => 0))), (u_50, .inl (cI, 3, .inl (fun _ => 0))), (q_52, .inr (2, [.ref w_56, .ref y_57, .ref a_58, .ref u_59, .int 0, .int 0, .int 1, .int 0])), (w_56, .inl (cI, 12, .inl (fun _ => 0))), (y_57, .inl (cI, 12, .inl (fun _ => 0))), (a_58, .inl (cI, 12, .inl (fun _ => 0))), (u_59, .inl (cI, 3, .inl (fun _ => 0)))] H := hP
  have hD : va_D A [(x, .inr (6, [.ref q_1, .ref q_6, .ref q_14, .ref q_22, .ref q_29, .ref q_34, .ref q_40, .ref q_41, .null, .long 0])), (q_1, .inr (5, [.ref w_5, .int 0])), (w_5, .inl (cI, 130, .inl (fun _ => 0))), (q_6, .inr (2, [.ref w_10, .ref y_11, .ref a_12, .ref u_13, .int 0, .int 0, .int 1, .int 0])), (w_10, .inl (cI, 12, .inl (fun _ => 0))), (y_11, .inl (cI, 12, .inl (fun _ => 0))), (a_12, .inl (cI, 12, .inl (fun _ => 0))), (u_13, .inl (cI, 3, .inl (fun _ => 0))), (q_14, .inr (2, [.ref w_18, .ref y_19, .ref a_20, .ref u_21, .int 0, .int 0, .int 1, .int 0])), (w_18, .inl (cI, 12, .inl (fun _ => 0))), (y_19, .inl (cI, 12, .inl (fun _ => 0))), (a_20, .inl (cI, 12, .inl (fun _ => 0))), (u_21, .inl (cI, 3, .inl (fun _ => 0))), (q_22, .inr (0, [.ref w_26, .ref y_27, .ref a_28, .int 0, .int 0])), (w_26, .inl (cI, 14, .inl (fun _ => 0))), (y_27, .inl (cI, 14, .inl (fun _ => 0))), (a_28, .inl (cI, 14, .inl (fun _ => 0))), (q_29, .inr (1, [.ref w_33, .int 0, .int 0])), (w_33, .inl (cI, 256, .inl (fun _ => 0))), (q_34, .inr (3, [.ref w_38, .ref y_39, .int 0])), (q_40, .inl (cQ, 2, .inr (.inr (.inr (.inr (va_up (fun _ => none) 0 (some q_43))))))), (q_41, .inl (cZ, 2, .inl (fun _ => 0))), (q_43, .inr (2, [.ref w_47, .ref y_48, .ref a_49, .ref u_50, .int 0, .int 0, .int 1, .int 0])), (w_47, .inl (cI, 12, .inl (fun _ => 0))), (y_48, .inl (cI, 12, .inl (fun _ => 0))), (a_49, .inl (cI, 12, .inl (fun _ => 0))), (u_50, .inl (cI, 3, .inl (fun _ => 0))), (q_52, .inr (2, [.ref w_56, .ref y_57, .ref a_58, .ref u_59, .int 0, .int 0, .int 1, .int 0])), (w_56, .inl (cI, 12, .inl (fun _ => 0))), (y_57, .inl (cI, 12, .inl (fun _ => 0))), (a_58, .inl (cI, 12, .inl (fun _ => 0))), (u_59, .inl (cI, 3, .inl (fun _ => 0)))] := hD
  refine W.widen (k := 33) (n := 645) (Nat.le_of_ble_eq_true rfl) (Nat.le_of_ble_eq_true rfl) ?_
  refine va_astq hx hb hK.1 hP hD hS 20 2 27 2 rfl rfl rfl rfl (vp_in_nI (n := 1) (N := 2) (Nat.le_of_ble_eq_true rfl) (by decide)) d_X8_init_104 (fun H locs hP hD hS => ?_)
  have hP : va_P D vwCl [(x, .inr (6, [.ref q_1, .ref q_6, .ref q_14, .ref q_22, .ref q_29, .ref q_34, .ref q_40, .ref q_41, .null, .long 0])), (q_1, .inr (5, [.ref w_5, .int 0])), (w_5, .inl (cI, 130, .inl (fun _ => 0))), (q_6, .inr (2, [.ref w_10, .ref y_11, .ref a_12, .ref u_13, .int 0, .int 0, .int 1, .int 0])), (w_10, .inl (cI, 12, .inl (fun _ => 0))), (y_11, .inl (cI, 12, .inl (fun _ => 0))), (a_12, .inl (cI, 12, .inl (fun _ => 0))), (u_13, .inl (cI, 3, .inl (fun _ => 0))), (q_14, .inr (2, [.ref w_18, .ref y_19, .ref a_20, .ref u_21, .int 0, .int 0, .int 1, .int 0])), (w_18, .inl (cI, 12, .inl (fun _ => 0))), (y_19, .inl (cI, 12, .inl (fun _ => 0))), (a_20, .inl (cI, 12, .inl (fun _ => 0))), (u_21, .inl (cI, 3, .inl (fun _ => 0))), (q_22, .inr (0, [.ref w_26, .ref y_27, .ref a_28, .int 0, .int 0])), (w_26, .inl (cI, 14, .inl (fun _ => 0))), (y_27, .inl (cI, 14, .inl (fun _ => 0))), (a_28, .inl (cI, 14, .inl (fun _ => 0))), (q_29, .inr (1, [.ref w_33, .int 0, .int 0])), (w_33, .inl (cI, 256, .inl (fun _ => 0))), (q_34, .inr (3, [.ref w_38, .ref y_39, .int 0])), (q_40, .inl (cQ, 2, .inr (.inr (.inr (.inr (va_up (va_up (fun _ => none) 0 (some q_43)) 1 (some q_52))))))), (q_41, .inl (cZ, 2, .inl (fun _ => 0))), (q_43, .inr (2, [.ref w_47, .ref y_48, .ref a_49, .ref u_50, .int 0, .int 0, .int 1, .int 0])), (w_47, .inl (cI, 12, .inl (fun _ => 0))), (y_48, .inl (cI, 12, .inl (fun _ => 0))), (a_49, .inl (cI, 12, .inl (fun _ => 0))), (u_50, .inl (cI, 3, .inl (fun _ => 0))), (q_52, .inr (2, [.ref w_56, .ref y_57, .ref a_58, .ref u_59, .int 0, .int 0, .int 1, .int 0])), (w_56, .inl (cI, 12, .inl (fun _ => 0))), (y_57, .inl (cI, 12, .inl (fun _ => 0))), (a_58, .inl (cI, 12, .inl (fun _ => 0))), (u_59, .inl (cI, 3, .inl (fun _ => 0)))] H := hP
  have hD : va_D A [(x, .inr (6, [.ref q_1, .ref q_6, .ref q_14, .ref q_22, .ref q_29, .ref q_34, .ref q_40, .ref q_41, .null, .long 0])), (q_1, .inr (5, [.ref w_5, .int 0])), (w_5, .inl (cI, 130, .inl (fun _ => 0))), (q_6, .inr (2, [.ref w_10, .ref y_11, .ref a_12, .ref u_13, .int 0, .int 0, .int 1, .int 0])), (w_10, .inl (cI, 12, .inl (fun _ => 0))), (y_11, .inl (cI, 12, .inl (fun _ => 0))), (a_12, .inl (cI, 12, .inl (fun _ => 0))), (u_13, .inl (cI, 3, .inl (fun _ => 0))), (q_14, .inr (2, [.ref w_18, .ref y_19, .ref a_20, .ref u_21, .int 0, .int 0, .int 1, .int 0])), (w_18, .inl (cI, 12, .inl (fun _ => 0))), (y_19, .inl (cI, 12, .inl (fun _ => 0))), (a_20, .inl (cI, 12, .inl (fun _ => 0))), (u_21, .inl (cI, 3, .inl (fun _ => 0))), (q_22, .inr (0, [.ref w_26, .ref y_27, .ref a_28, .int 0, .int 0])), (w_26, .inl (cI, 14, .inl (fun _ => 0))), (y_27, .inl (cI, 14, .inl (fun _ => 0))), (a_28, .inl (cI, 14, .inl (fun _ => 0))), (q_29, .inr (1, [.ref w_33, .int 0, .int 0])), (w_33, .inl (cI, 256, .inl (fun _ => 0))), (q_34, .inr (3, [.ref w_38, .ref y_39, .int 0])), (q_40, .inl (cQ, 2, .inr (.inr (.inr (.inr (va_up (va_up (fun _ => none) 0 (some q_43)) 1 (some q_52))))))), (q_41, .inl (cZ, 2, .inl (fun _ => 0))), (q_43, .inr (2, [.ref w_47, .ref y_48, .ref a_49, .ref u_50, .int 0, .int 0, .int 1, .int 0])), (w_47, .inl (cI, 12, .inl (fun _ => 0))), (y_48, .inl (cI, 12, .inl (fun _ => 0))), (a_49, .inl (cI, 12, .inl (fun _ => 0))), (u_50, .inl (cI, 3, .inl (fun _ => 0))), (q_52, .inr (2, [.ref w_56, .ref y_57, .ref a_58, .ref u_59, .int 0, .int 0, .int 1, .int 0])), (w_56, .inl (cI, 12, .inl (fun _ => 0))), (y_57, .inl (cI, 12, .inl (fun _ => 0))), (a_58, .inl (cI, 12, .inl (fun _ => 0))), (u_59, .inl (cI, 3, .inl (fun _ => 0)))] := hD
  refine lv_iinc (v := 2) (lv' := [(1, .int 2), (0, .ref x)]) hx hb d_X8_init_105 hl (k := 0) rfl (by decide +kernel) (by decide) rfl (fun ls hl => ?_)
  refine lv_goto (tgt := 87) hx hb d_X8_init_108 (by decide) ?_
  refine lv_iload_n hx hb d_X8_init_87 rfl (lv_at hl 0 rfl) ?_
  refine lv_iconst (v := 2) hx hb d_X8_init_88 (by decide) ?_
  refine lv_icmp_ge (tgt := 111) hx hb d_X8_init_89 (by decide) (fun _ => ?_) (fun c_60 => absurd (by decide +kernel) c_60)
  exact hret _ _ _ _ [(x, .inr (6, [.ref q_1, .ref q_6, .ref q_14, .ref q_22, .ref q_29, .ref q_34, .ref q_40, .ref q_41, .null, .long 0])), (q_1, .inr (5, [.ref w_5, .int 0])), (w_5, .inl (cI, 130, .inl (fun _ => 0))), (q_6, .inr (2, [.ref w_10, .ref y_11, .ref a_12, .ref u_13, .int 0, .int 0, .int 1, .int 0])), (w_10, .inl (cI, 12, .inl (fun _ => 0))), (y_11, .inl (cI, 12, .inl (fun _ => 0))), (a_12, .inl (cI, 12, .inl (fun _ => 0))), (u_13, .inl (cI, 3, .inl (fun _ => 0))), (q_14, .inr (2, [.ref w_18, .ref y_19, .ref a_20, .ref u_21, .int 0, .int 0, .int 1, .int 0])), (w_18, .inl (cI, 12, .inl (fun _ => 0))), (y_19, .inl (cI, 12, .inl (fun _ => 0))), (a_20, .inl (cI, 12, .inl (fun _ => 0))), (u_21, .inl (cI, 3, .inl (fun _ => 0))), (q_22, .inr (0, [.ref w_26, .ref y_27, .ref a_28, .int 0, .int 0])), (w_26, .inl (cI, 14, .inl (fun _ => 0))), (y_27, .inl (cI, 14, .inl (fun _ => 0))), (a_28, .inl (cI, 14, .inl (fun _ => 0))), (q_29, .inr (1, [.ref w_33, .int 0, .int 0])), (w_33, .inl (cI, 256, .inl (fun _ => 0))), (q_34, .inr (3, [.ref w_38, .ref y_39, .int 0])), (q_40, .inl (cQ, 2, .inr (.inr (.inr (.inr (va_up (va_up (fun _ => none) 0 (some q_43)) 1 (some q_52))))))), (q_43, .inr (2, [.ref w_47, .ref y_48, .ref a_49, .ref u_50, .int 0, .int 0, .int 1, .int 0])), (w_47, .inl (cI, 12, .inl (fun _ => 0))), (y_48, .inl (cI, 12, .inl (fun _ => 0))), (a_49, .inl (cI, 12, .inl (fun _ => 0))), (u_50, .inl (cI, 3, .inl (fun _ => 0))), (q_52, .inr (2, [.ref w_56, .ref y_57, .ref a_58, .ref u_59, .int 0, .int 0, .int 1, .int 0])), (w_56, .inl (cI, 12, .inl (fun _ => 0))), (y_57, .inl (cI, 12, .inl (fun _ => 0))), (a_58, .inl (cI, 12, .inl (fun _ => 0))), (u_59, .inl (cI, 3, .inl (fun _ => 0))), (q_41, .inl (cZ, 2, .inl (fun _ => 0)))] _ _ (hP.sub (ws' := [(x, .inr (6, [.ref q_1, .ref q_6, .ref q_14, .ref q_22, .ref q_29, .ref q_34, .ref q_40, .ref q_41, .null, .long 0])), (q_1, .inr (5, [.ref w_5, .int 0])), (w_5, .inl (cI, 130, .inl (fun _ => 0))), (q_6, .inr (2, [.ref w_10, .ref y_11, .ref a_12, .ref u_13, .int 0, .int 0, .int 1, .int 0])), (w_10, .inl (cI, 12, .inl (fun _ => 0))), (y_11, .inl (cI, 12, .inl (fun _ => 0))), (a_12, .inl (cI, 12, .inl (fun _ => 0))), (u_13, .inl (cI, 3, .inl (fun _ => 0))), (q_14, .inr (2, [.ref w_18, .ref y_19, .ref a_20, .ref u_21, .int 0, .int 0, .int 1, .int 0])), (w_18, .inl (cI, 12, .inl (fun _ => 0))), (y_19, .inl (cI, 12, .inl (fun _ => 0))), (a_20, .inl (cI, 12, .inl (fun _ => 0))), (u_21, .inl (cI, 3, .inl (fun _ => 0))), (q_22, .inr (0, [.ref w_26, .ref y_27, .ref a_28, .int 0, .int 0])), (w_26, .inl (cI, 14, .inl (fun _ => 0))), (y_27, .inl (cI, 14, .inl (fun _ => 0))), (a_28, .inl (cI, 14, .inl (fun _ => 0))), (q_29, .inr (1, [.ref w_33, .int 0, .int 0])), (w_33, .inl (cI, 256, .inl (fun _ => 0))), (q_34, .inr (3, [.ref w_38, .ref y_39, .int 0])), (q_40, .inl (cQ, 2, .inr (.inr (.inr (.inr (va_up (va_up (fun _ => none) 0 (some q_43)) 1 (some q_52))))))), (q_43, .inr (2, [.ref w_47, .ref y_48, .ref a_49, .ref u_50, .int 0, .int 0, .int 1, .int 0])), (w_47, .inl (cI, 12, .inl (fun _ => 0))), (y_48, .inl (cI, 12, .inl (fun _ => 0))), (a_49, .inl (cI, 12, .inl (fun _ => 0))), (u_50, .inl (cI, 3, .inl (fun _ => 0))), (q_52, .inr (2, [.ref w_56, .ref y_57, .ref a_58, .ref u_59, .int 0, .int 0, .int 1, .int 0])), (w_56, .inl (cI, 12, .inl (fun _ => 0))), (y_57, .inl (cI, 12, .inl (fun _ => 0))), (a_58, .inl (cI, 12, .inl (fun _ => 0))), (u_59, .inl (cI, 3, .inl (fun _ => 0))), (q_41, .inl (cZ, 2, .inl (fun _ => 0)))]) [0, 1, 2, 3, 4, 5, 6, 7, 8, 9, 10, 11, 12, 13, 14, 15, 16, 17, 18, 19, 20, 22, 23, 24, 25, 26, 27, 28, 29, 30, 31, 21] rfl) (hD.sub (ws' := [(x, .inr (6, [.ref q_1, .ref q_6, .ref q_14, .ref q_22, .ref q_29, .ref q_34, .ref q_40, .ref q_41, .null, .long 0])), (q_1, .inr (5, [.ref w_5, .int 0])), (w_5, .inl (cI, 130, .inl (fun _ => 0))), (q_6, .inr (2, [.ref w_10, .ref y_11, .ref a_12, .ref u_13, .int 0, .int 0, .int 1, .int 0])), (w_10, .inl (cI, 12, .inl (fun _ => 0))), (y_11, .inl (cI, 12, .inl (fun _ => 0))), (a_12, .inl (cI, 12, .inl (fun _ => 0))), (u_13, .inl (cI, 3, .inl (fun _ => 0))), (q_14, .inr (2, [.ref w_18, .ref y_19, .ref a_20, .ref u_21, .int 0, .int 0, .int 1, .int 0])), (w_18, .inl (cI, 12, .inl (fun _ => 0))), (y_19, .inl (cI, 12, .inl (fun _ => 0))), (a_20, .inl (cI, 12, .inl (fun _ => 0))), (u_21, .inl (cI, 3, .inl (fun _ => 0))), (q_22, .inr (0, [.ref w_26, .ref y_27, .ref a_28, .int 0, .int 0])), (w_26, .inl (cI, 14, .inl (fun _ => 0))), (y_27, .inl (cI, 14, .inl (fun _ => 0))), (a_28, .inl (cI, 14, .inl (fun _ => 0))), (q_29, .inr (1, [.ref w_33, .int 0, .int 0])), (w_33, .inl (cI, 256, .inl (fun _ => 0))), (q_34, .inr (3, [.ref w_38, .ref y_39, .int 0])), (q_40, .inl (cQ, 2, .inr (.inr (.inr (.inr (va_up (va_up (fun _ => none) 0 (some q_43)) 1 (some q_52))))))), (q_43, .inr (2, [.ref w_47, .ref y_48, .ref a_49, .ref u_50, .int 0, .int 0, .int 1, .int 0])), (w_47, .inl (cI, 12, .inl (fun _ => 0))), (y_48, .inl (cI, 12, .inl (fun _ => 0))), (a_49, .inl (cI, 12, .inl (fun _ => 0))), (u_50, .inl (cI, 3, .inl (fun _ => 0))), (q_52, .inr (2, [.ref w_56, .ref y_57, .ref a_58, .ref u_59, .int 0, .int 0, .int 1, .int 0])), (w_56, .inl (cI, 12, .inl (fun _ => 0))), (y_57, .inl (cI, 12, .inl (fun _ => 0))), (a_58, .inl (cI, 12, .inl (fun _ => 0))), (u_59, .inl (cI, 3, .inl (fun _ => 0))), (q_41, .inl (cZ, 2, .inl (fun _ => 0)))]) [0, 1, 2, 3, 4, 5, 6, 7, 8, 9, 10, 11, 12, 13, 14, 15, 16, 17, 18, 19, 20, 22, 23, 24, 25, 26, 27, 28, 29, 30, 31, 21] (by decide) rfl) hS (Nat.le_of_ble_eq_true rfl) (Nat.le_of_ble_eq_true rfl) d_X8_init_111 ⟨q_1, q_6, q_14, q_22, q_29, q_34, q_40, q_41, w_5, w_10, y_11, a_12, u_13, w_18, y_19, a_20, u_21, w_26, y_27, a_28, w_33, w_38, y_39, q_43, q_52, w_47, y_48, a_49, u_50, w_56, y_57, a_58, u_59, rfl⟩
end
section
theorem d_X7_signAt_0 : decode cX7_signAt 0 = .ok (.iload_n 1, 1) := by decide +kernel
theorem d_X7_signAt_1 : decode cX7_signAt 1 = .ok (.ifCond .lt 20, 3) := by decide +kernel
theorem d_X7_signAt_4 : decode cX7_signAt 4 = .ok (.iload_n 1, 1) := by decide +kernel
theorem d_X7_signAt_5 : decode cX7_signAt 5 = .ok (.aload_n 0, 1) := by decide +kernel
theorem d_X7_signAt_6 : decode cX7_signAt 6 = .ok (.getfield 15, 3) := by decide +kernel
theorem k_70 : (.fieldLink RX7 15 "CommonUnits$Text" "length" "I" : Cond) ∈ cu_G := cu_mem 70 (by decide +kernel) (by decide +kernel)
theorem d_X7_signAt_9 : decode cX7_signAt 9 = .ok (.if_icmp .ge 12, 3) := by decide +kernel
theorem d_X7_signAt_21 : decode cX7_signAt 21 = .ok (.iconst (-1), 1) := by decide +kernel
theorem d_X7_signAt_22 : decode cX7_signAt 22 = .ok (.ireturn, 1) := by decide +kernel
theorem d_X7_readInto_0 : decode cX7_readInto 0 = .ok (.aload_n 0, 1) := by decide +kernel
theorem d_X7_readInto_1 : decode cX7_readInto 1 = .ok (.iconst 0, 1) := by decide +kernel
theorem d_X7_readInto_2 : decode cX7_readInto 2 = .ok (.invokevirtual 19, 3) := by decide +kernel
theorem hd_X7_signAt : cu_hd yX7_signAt 1 := by decide +kernel
theorem k_233 : (.code yX7_signAt cX7_signAt 2 (some .int) : Cond) ∈ cu_G := cu_mem 233 (by decide +kernel) (by decide +kernel)
theorem k_230 : (.methodLink RX7 19 yX7_signAt : Cond) ∈ cu_G := cu_mem 230 (by decide +kernel) (by decide +kernel)
theorem k_232 : (.instanceMethod yX7_signAt : Cond) ∈ cu_G := cu_mem 232 (by decide +kernel) (by decide +kernel)
theorem k_0 : (.selects RX7 yX7_signAt yX7_signAt : Cond) ∈ cu_G := cu_mem 0 (by decide +kernel) (by decide +kernel)
theorem d_X7_readInto_5 : decode cX7_readInto 5 = .ok (.bipush 72, 2) := by decide +kernel
theorem d_X7_readInto_7 : decode cX7_readInto 7 = .ok (.if_icmp .eq 5, 3) := by decide +kernel
theorem d_X7_readInto_10 : decode cX7_readInto 10 = .ok (.iconst 0, 1) := by decide +kernel
theorem d_X7_readInto_11 : decode cX7_readInto 11 = .ok (.ireturn, 1) := by decide +kernel
theorem d_X7_append_0 : decode cX7_append 0 = .ok (.aload_n 0, 1) := by decide +kernel
theorem d_X7_append_1 : decode cX7_append 1 = .ok (.getfield 15, 3) := by decide +kernel
theorem d_X7_append_4 : decode cX7_append 4 = .ok (.sipush 130, 3) := by decide +kernel
theorem d_X7_append_7 : decode cX7_append 7 = .ok (.if_icmp .lt 6, 3) := by decide +kernel
theorem d_X7_append_13 : decode cX7_append 13 = .ok (.aload_n 0, 1) := by decide +kernel
theorem d_X7_append_14 : decode cX7_append 14 = .ok (.getfield 9, 3) := by decide +kernel
theorem d_X7_append_17 : decode cX7_append 17 = .ok (.aload_n 0, 1) := by decide +kernel
theorem d_X7_append_18 : decode cX7_append 18 = .ok (.getfield 15, 3) := by decide +kernel
theorem d_X7_append_21 : decode cX7_append 21 = .ok (.iload_n 1, 1) := by decide +kernel
theorem d_X7_append_22 : decode cX7_append 22 = .ok (.iastore, 1) := by decide +kernel
theorem d_X7_append_23 : decode cX7_append 23 = .ok (.aload_n 0, 1) := by decide +kernel
theorem d_X7_append_24 : decode cX7_append 24 = .ok (.dup, 1) := by decide +kernel
theorem d_X7_append_25 : decode cX7_append 25 = .ok (.getfield 15, 3) := by decide +kernel
theorem d_X7_append_28 : decode cX7_append 28 = .ok (.iconst 1, 1) := by decide +kernel
theorem d_X7_append_29 : decode cX7_append 29 = .ok (.iadd, 1) := by decide +kernel
theorem d_X7_append_30 : decode cX7_append 30 = .ok (.putfield 15, 3) := by decide +kernel
theorem d_X7_append_33 : decode cX7_append 33 = .ok (.aload_n 0, 1) := by decide +kernel
theorem d_X7_append_34 : decode cX7_append 34 = .ok (.getfield 15, 3) := by decide +kernel
theorem d_X7_append_37 : decode cX7_append 37 = .ok (.ireturn, 1) := by decide +kernel
theorem d_X0_add_0 : decode cX0_add 0 = .ok (.aload_n 0, 1) := by decide +kernel
theorem d_X0_add_1 : decode cX0_add 1 = .ok (.getfield 9, 3) := by decide +kernel
theorem d_X0_add_4 : decode cX0_add 4 = .ok (.aload_n 0, 1) := by decide +kernel
theorem d_X0_add_5 : decode cX0_add 5 = .ok (.getfield 21, 3) := by decide +kernel
theorem k_130 : (.fieldLink RX0 21 "CommonUnits$Acts" "next" "I" : Cond) ∈ cu_G := cu_mem 130 (by decide +kernel) (by decide +kernel)
theorem d_X0_add_8 : decode cX0_add 8 = .ok (.iload_n 1, 1) := by decide +kernel
theorem d_X0_add_9 : decode cX0_add 9 = .ok (.iastore, 1) := by decide +kernel
theorem d_X0_add_10 : decode cX0_add 10 = .ok (.aload_n 0, 1) := by decide +kernel
theorem d_X0_add_11 : decode cX0_add 11 = .ok (.getfield 15, 3) := by decide +kernel
theorem d_X0_add_14 : decode cX0_add 14 = .ok (.aload_n 0, 1) := by decide +kernel
theorem d_X0_add_15 : decode cX0_add 15 = .ok (.getfield 21, 3) := by decide +kernel
theorem d_X0_add_18 : decode cX0_add 18 = .ok (.iload_n 2, 1) := by decide +kernel
theorem d_X0_add_19 : decode cX0_add 19 = .ok (.iastore, 1) := by decide +kernel
theorem d_X0_add_20 : decode cX0_add 20 = .ok (.aload_n 0, 1) := by decide +kernel
theorem d_X0_add_21 : decode cX0_add 21 = .ok (.getfield 18, 3) := by decide +kernel
theorem d_X0_add_24 : decode cX0_add 24 = .ok (.aload_n 0, 1) := by decide +kernel
theorem d_X0_add_25 : decode cX0_add 25 = .ok (.getfield 21, 3) := by decide +kernel
theorem d_X0_add_28 : decode cX0_add 28 = .ok (.iload_n 3, 1) := by decide +kernel
theorem d_X0_add_29 : decode cX0_add 29 = .ok (.iastore, 1) := by decide +kernel
theorem d_X0_add_30 : decode cX0_add 30 = .ok (.aload_n 0, 1) := by decide +kernel
theorem d_X0_add_31 : decode cX0_add 31 = .ok (.aload_n 0, 1) := by decide +kernel
theorem d_X0_add_32 : decode cX0_add 32 = .ok (.getfield 21, 3) := by decide +kernel
theorem d_X0_add_35 : decode cX0_add 35 = .ok (.iconst 1, 1) := by decide +kernel
theorem d_X0_add_36 : decode cX0_add 36 = .ok (.iadd, 1) := by decide +kernel
theorem d_X0_add_37 : decode cX0_add 37 = .ok (.bipush 14, 2) := by decide +kernel
theorem d_X0_add_39 : decode cX0_add 39 = .ok (.irem, 1) := by decide +kernel
theorem d_X0_add_40 : decode cX0_add 40 = .ok (.putfield 21, 3) := by decide +kernel
theorem d_X0_add_43 : decode cX0_add 43 = .ok (.aload_n 0, 1) := by decide +kernel
theorem d_X0_add_44 : decode cX0_add 44 = .ok (.aload_n 0, 1) := by decide +kernel
theorem d_X0_add_45 : decode cX0_add 45 = .ok (.getfield 25, 3) := by decide +kernel
theorem k_131 : (.fieldLink RX0 25 "CommonUnits$Acts" "size" "I" : Cond) ∈ cu_G := cu_mem 131 (by decide +kernel) (by decide +kernel)
theorem d_X0_add_48 : decode cX0_add 48 = .ok (.iconst 1, 1) := by decide +kernel
theorem d_X0_add_49 : decode cX0_add 49 = .ok (.iadd, 1) := by decide +kernel
theorem d_X0_add_50 : decode cX0_add 50 = .ok (.bipush 14, 2) := by decide +kernel
theorem d_X0_add_52 : decode cX0_add 52 = .ok (.invokestatic 28, 3) := by decide +kernel
theorem k_360 : (.methodLink RX0 28 Lib.Math.min.name : Cond) ∈ cu_G := cu_mem 360 (by decide +kernel) (by decide +kernel)
theorem k_361 : (.static Lib.Math.min.name : Cond) ∈ cu_G := cu_mem 361 (by decide +kernel) (by decide +kernel)
theorem k_52 : (.initialized "java/lang/Math" : Cond) ∈ cu_G := cu_mem 52 (by decide +kernel) (by decide +kernel)
theorem k_362 : (.code Lib.Math.min.name Lib.Math.min.code 2 (some .int) : Cond) ∈ cu_G := cu_mem 362 (by decide +kernel) (by decide +kernel)
theorem d_X0_add_55 : decode cX0_add 55 = .ok (.putfield 25, 3) := by decide +kernel
theorem d_X0_add_58 : decode cX0_add 58 = .ok (.return_, 1) := by decide +kernel
theorem d_X3_exchange_0 : decode cX3_exchange 0 = .ok (.iload_n 2, 1) := by decide +kernel
theorem d_X3_exchange_1 : decode cX3_exchange 1 = .ok (.ifCond .lt 14, 3) := by decide +kernel
theorem d_X3_exchange_15 : decode cX3_exchange 15 = .ok (.iconst (-1), 1) := by decide +kernel
theorem d_X3_exchange_16 : decode cX3_exchange 16 = .ok (.ireturn, 1) := by decide +kernel
theorem d_X3_exchange_4 : decode cX3_exchange 4 = .ok (.iload_n 2, 1) := by decide +kernel
theorem d_X3_exchange_5 : decode cX3_exchange 5 = .ok (.iload_n 1, 1) := by decide +kernel
theorem d_X3_exchange_6 : decode cX3_exchange 6 = .ok (.if_icmp .ge 9, 3) := by decide +kernel
theorem d_X3_put_0 : decode cX3_put 0 = .ok (.bipush (-2), 2) := by decide +kernel
theorem d_X3_put_2 : decode cX3_put 2 = .ok (.istore 4, 2) := by decide +kernel
theorem d_X3_put_4 : decode cX3_put 4 = .ok (.iload_n 1, 1) := by decide +kernel
theorem d_X3_put_5 : decode cX3_put 5 = .ok (.tableswitch 155 0 5 #[39, 57, 74, 90, 108, 132], 39) := by decide +kernel
theorem d_X3_put_44 : decode cX3_put 44 = .ok (.aload_n 0, 1) := by decide +kernel
theorem d_X3_put_45 : decode cX3_put 45 = .ok (.getfield 9, 3) := by decide +kernel
theorem d_X3_put_48 : decode cX3_put 48 = .ok (.aload_n 0, 1) := by decide +kernel
theorem d_X3_put_49 : decode cX3_put 49 = .ok (.getfield 28, 3) := by decide +kernel
theorem d_X3_put_52 : decode cX3_put 52 = .ok (.iload_n 2, 1) := by decide +kernel
theorem d_X3_put_53 : decode cX3_put 53 = .ok (.iload_n 3, 1) := by decide +kernel
theorem d_X3_put_54 : decode cX3_put 54 = .ok (.iconst 1, 1) := by decide +kernel
theorem d_X3_put_55 : decode cX3_put 55 = .ok (.sipush 999, 3) := by decide +kernel
theorem d_X3_put_58 : decode cX3_put 58 = .ok (.invokestatic 45, 3) := by decide +kernel
theorem hd_X3_exchange : cu_hd yX3_exchange 6 := by decide +kernel
theorem k_355 : (.code yX3_exchange cX3_exchange 7 (some .int) : Cond) ∈ cu_G := cu_mem 355 (by decide +kernel) (by decide +kernel)
theorem k_353 : (.methodLink RX3 45 yX3_exchange : Cond) ∈ cu_G := cu_mem 353 (by decide +kernel) (by decide +kernel)
theorem k_354 : (.static yX3_exchange : Cond) ∈ cu_G := cu_mem 354 (by decide +kernel) (by decide +kernel)
theorem d_X3_put_61 : decode cX3_put 61 = .ok (.ireturn, 1) := by decide +kernel
theorem d_X3_put_62 : decode cX3_put 62 = .ok (.aload_n 0, 1) := by decide +kernel
theorem d_X3_put_63 : decode cX3_put 63 = .ok (.getfield 15, 3) := by decide +kernel
theorem d_X3_put_66 : decode cX3_put 66 = .ok (.aload_n 0, 1) := by decide +kernel
theorem d_X3_put_67 : decode cX3_put 67 = .ok (.getfield 28, 3) := by decide +kernel
theorem d_X3_put_70 : decode cX3_put 70 = .ok (.iload_n 2, 1) := by decide +kernel
theorem d_X3_put_71 : decode cX3_put 71 = .ok (.iload_n 3, 1) := by decide +kernel
theorem d_X3_put_72 : decode cX3_put 72 = .ok (.iconst 0, 1) := by decide +kernel
theorem d_X3_put_73 : decode cX3_put 73 = .ok (.bipush 9, 2) := by decide +kernel
theorem d_X3_put_75 : decode cX3_put 75 = .ok (.invokestatic 45, 3) := by decide +kernel
theorem d_X3_put_78 : decode cX3_put 78 = .ok (.ireturn, 1) := by decide +kernel
theorem d_X3_put_79 : decode cX3_put 79 = .ok (.aload_n 0, 1) := by decide +kernel
theorem d_X3_put_80 : decode cX3_put 80 = .ok (.getfield 18, 3) := by decide +kernel
theorem d_X3_put_83 : decode cX3_put 83 = .ok (.aload_n 0, 1) := by decide +kernel
theorem d_X3_put_84 : decode cX3_put 84 = .ok (.getfield 28, 3) := by decide +kernel
theorem d_X3_put_87 : decode cX3_put 87 = .ok (.iload_n 2, 1) := by decide +kernel
theorem d_X3_put_88 : decode cX3_put 88 = .ok (.iload_n 3, 1) := by decide +kernel
theorem d_X3_put_89 : decode cX3_put 89 = .ok (.iconst 0, 1) := by decide +kernel
theorem d_X3_put_90 : decode cX3_put 90 = .ok (.iconst 1, 1) := by decide +kernel
theorem d_X3_put_91 : decode cX3_put 91 = .ok (.invokestatic 45, 3) := by decide +kernel
theorem d_X3_put_94 : decode cX3_put 94 = .ok (.ireturn, 1) := by decide +kernel
theorem d_X3_put_95 : decode cX3_put 95 = .ok (.aload_n 0, 1) := by decide +kernel
theorem d_X3_put_96 : decode cX3_put 96 = .ok (.getfield 21, 3) := by decide +kernel
theorem d_X3_put_99 : decode cX3_put 99 = .ok (.aload_n 0, 1) := by decide +kernel
theorem d_X3_put_100 : decode cX3_put 100 = .ok (.getfield 31, 3) := by decide +kernel
theorem d_X3_put_103 : decode cX3_put 103 = .ok (.iload_n 2, 1) := by decide +kernel
theorem d_X3_put_104 : decode cX3_put 104 = .ok (.iload_n 3, 1) := by decide +kernel
theorem d_X3_put_105 : decode cX3_put 105 = .ok (.iconst 1, 1) := by decide +kernel
theorem d_X3_put_106 : decode cX3_put 106 = .ok (.sipush 999, 3) := by decide +kernel
theorem d_X3_put_109 : decode cX3_put 109 = .ok (.invokestatic 45, 3) := by decide +kernel
theorem d_X3_put_112 : decode cX3_put 112 = .ok (.ireturn, 1) := by decide +kernel
theorem d_X3_put_113 : decode cX3_put 113 = .ok (.iload_n 3, 1) := by decide +kernel
theorem d_X3_put_114 : decode cX3_put 114 = .ok (.ifCond .lt 20, 3) := by decide +kernel
theorem d_X3_put_134 : decode cX3_put 134 = .ok (.iload 4, 2) := by decide +kernel
theorem d_X3_put_136 : decode cX3_put 136 = .ok (.ireturn, 1) := by decide +kernel
theorem d_X3_put_117 : decode cX3_put 117 = .ok (.iload_n 3, 1) := by decide +kernel
theorem d_X3_put_118 : decode cX3_put 118 = .ok (.bipush 9, 2) := by decide +kernel
theorem d_X3_put_120 : decode cX3_put 120 = .ok (.if_icmp .gt 14, 3) := by decide +kernel
theorem d_X3_put_123 : decode cX3_put 123 = .ok (.aload_n 0, 1) := by decide +kernel
theorem d_X3_put_124 : decode cX3_put 124 = .ok (.getfield 24, 3) := by decide +kernel
theorem d_X3_put_127 : decode cX3_put 127 = .ok (.istore 4, 2) := by decide +kernel
theorem d_X3_put_129 : decode cX3_put 129 = .ok (.aload_n 0, 1) := by decide +kernel
theorem d_X3_put_130 : decode cX3_put 130 = .ok (.iload_n 3, 1) := by decide +kernel
theorem d_X3_put_131 : decode cX3_put 131 = .ok (.putfield 24, 3) := by decide +kernel
theorem d_X3_put_137 : decode cX3_put 137 = .ok (.iload_n 3, 1) := by decide +kernel
theorem d_X3_put_138 : decode cX3_put 138 = .ok (.ifCond .lt 19, 3) := by decide +kernel
theorem d_X3_put_157 : decode cX3_put 157 = .ok (.iload 4, 2) := by decide +kernel
theorem d_X3_put_159 : decode cX3_put 159 = .ok (.ireturn, 1) := by decide +kernel
theorem d_X3_put_141 : decode cX3_put 141 = .ok (.iload_n 3, 1) := by decide +kernel
theorem d_X3_put_142 : decode cX3_put 142 = .ok (.iconst 2, 1) := by decide +kernel
theorem d_X3_put_143 : decode cX3_put 143 = .ok (.if_icmp .gt 14, 3) := by decide +kernel
theorem d_X3_put_146 : decode cX3_put 146 = .ok (.aload_n 0, 1) := by decide +kernel
theorem d_X3_put_147 : decode cX3_put 147 = .ok (.getfield 34, 3) := by decide +kernel
theorem k_102 : (.fieldLink RX3 34 "CommonUnits$Hoard" "law" "I" : Cond) ∈ cu_G := cu_mem 102 (by decide +kernel) (by decide +kernel)
theorem d_X3_put_150 : decode cX3_put 150 = .ok (.istore 4, 2) := by decide +kernel
theorem d_X3_put_152 : decode cX3_put 152 = .ok (.aload_n 0, 1) := by decide +kernel
theorem d_X3_put_153 : decode cX3_put 153 = .ok (.iload_n 3, 1) := by decide +kernel
theorem d_X3_put_154 : decode cX3_put 154 = .ok (.putfield 34, 3) := by decide +kernel
theorem d_X8_act_0 : decode cX8_act 0 = .ok (.aload_n 0, 1) := by decide +kernel
theorem d_X8_act_1 : decode cX8_act 1 = .ok (.getfield 19, 3) := by decide +kernel
theorem d_X8_act_4 : decode cX8_act 4 = .ok (.iload_n 1, 1) := by decide +kernel
theorem d_X8_act_5 : decode cX8_act 5 = .ok (.iload_n 2, 1) := by decide +kernel
theorem d_X8_act_6 : decode cX8_act 6 = .ok (.iload_n 3, 1) := by decide +kernel
theorem d_X8_act_7 : decode cX8_act 7 = .ok (.invokevirtual 128, 3) := by decide +kernel
theorem hd_X3_put : cu_hd yX3_put 3 := by decide +kernel
theorem k_352 : (.code yX3_put cX3_put 5 (some .int) : Cond) ∈ cu_G := cu_mem 352 (by decide +kernel) (by decide +kernel)
theorem k_349 : (.methodLink RX8 128 yX3_put : Cond) ∈ cu_G := cu_mem 349 (by decide +kernel) (by decide +kernel)
theorem k_350 : (.instanceMethod yX3_put : Cond) ∈ cu_G := cu_mem 350 (by decide +kernel) (by decide +kernel)
theorem k_351 : (.selects RX3 yX3_put yX3_put : Cond) ∈ cu_G := cu_mem 351 (by decide +kernel) (by decide +kernel)
theorem d_X8_act_10 : decode cX8_act 10 = .ok (.istore 4, 2) := by decide +kernel
theorem d_X8_act_12 : decode cX8_act 12 = .ok (.iload 4, 2) := by decide +kernel
theorem d_X8_act_14 : decode cX8_act 14 = .ok (.ifCond .lt 14, 3) := by decide +kernel
theorem d_X8_act_28 : decode cX8_act 28 = .ok (.iload 4, 2) := by decide +kernel
theorem d_X8_act_30 : decode cX8_act 30 = .ok (.ireturn, 1) := by decide +kernel
theorem d_X8_act_17 : decode cX8_act 17 = .ok (.aload_n 0, 1) := by decide +kernel
theorem d_X8_act_18 : decode cX8_act 18 = .ok (.getfield 29, 3) := by decide +kernel
theorem d_X8_act_21 : decode cX8_act 21 = .ok (.iload_n 1, 1) := by decide +kernel
theorem d_X8_act_22 : decode cX8_act 22 = .ok (.iload_n 2, 1) := by decide +kernel
theorem d_X8_act_23 : decode cX8_act 23 = .ok (.iload 4, 2) := by decide +kernel
theorem d_X8_act_25 : decode cX8_act 25 = .ok (.invokevirtual 131, 3) := by decide +kernel
theorem hd_X0_add : cu_hd yX0_add 3 := by decide +kernel
theorem k_359 : (.code yX0_add cX0_add 4 none : Cond) ∈ cu_G := cu_mem 359 (by decide +kernel) (by decide +kernel)
theorem k_356 : (.methodLink RX8 131 yX0_add : Cond) ∈ cu_G := cu_mem 356 (by decide +kernel) (by decide +kernel)
theorem k_357 : (.instanceMethod yX0_add : Cond) ∈ cu_G := cu_mem 357 (by decide +kernel) (by decide +kernel)
theorem k_358 : (.selects RX0 yX0_add yX0_add : Cond) ∈ cu_G := cu_mem 358 (by decide +kernel) (by decide +kernel)
theorem d_X8_write_0 : decode cX8_write 0 = .ok (.iload_n 1, 1) := by decide +kernel
theorem d_X8_write_1 : decode cX8_write 1 = .ok (.ifCond .lt 10, 3) := by decide +kernel
theorem d_X8_write_11 : decode cX8_write 11 = .ok (.bipush (-2), 2) := by decide +kernel
theorem d_X8_write_13 : decode cX8_write 13 = .ok (.goto 11, 3) := by decide +kernel
theorem d_X8_write_24 : decode cX8_write 24 = .ok (.ireturn, 1) := by decide +kernel
theorem d_X8_write_4 : decode cX8_write 4 = .ok (.iload_n 1, 1) := by decide +kernel
theorem d_X8_write_5 : decode cX8_write 5 = .ok (.sipush 255, 3) := by decide +kernel
theorem d_X8_write_8 : decode cX8_write 8 = .ok (.if_icmp .le 8, 3) := by decide +kernel
theorem d_X8_write_16 : decode cX8_write 16 = .ok (.aload_n 0, 1) := by decide +kernel
theorem d_X8_write_17 : decode cX8_write 17 = .ok (.getfield 12, 3) := by decide +kernel
theorem d_X8_write_20 : decode cX8_write 20 = .ok (.iload_n 1, 1) := by decide +kernel
theorem d_X8_write_21 : decode cX8_write 21 = .ok (.invokevirtual 55, 3) := by decide +kernel
theorem hd_X7_append : cu_hd yX7_append 1 := by decide +kernel
theorem k_217 : (.code yX7_append cX7_append 2 (some .int) : Cond) ∈ cu_G := cu_mem 217 (by decide +kernel) (by decide +kernel)
theorem k_214 : (.methodLink RX8 55 yX7_append : Cond) ∈ cu_G := cu_mem 214 (by decide +kernel) (by decide +kernel)
theorem k_215 : (.instanceMethod yX7_append : Cond) ∈ cu_G := cu_mem 215 (by decide +kernel) (by decide +kernel)
theorem k_216 : (.selects RX7 yX7_append yX7_append : Cond) ∈ cu_G := cu_mem 216 (by decide +kernel) (by decide +kernel)
theorem d_X8_wipe_0 : decode cX8_wipe 0 = .ok (.aload_n 0, 1) := by decide +kernel
theorem d_X8_wipe_1 : decode cX8_wipe 1 = .ok (.getfield 12, 3) := by decide +kernel
theorem d_X8_wipe_4 : decode cX8_wipe 4 = .ok (.getfield 59, 3) := by decide +kernel
theorem k_71 : (.fieldLink RX8 59 "CommonUnits$Text" "length" "I" : Cond) ∈ cu_G := cu_mem 71 (by decide +kernel) (by decide +kernel)
theorem d_X8_wipe_7 : decode cX8_wipe 7 = .ok (.istore_n 1, 1) := by decide +kernel
theorem d_X8_wipe_8 : decode cX8_wipe 8 = .ok (.aload_n 0, 1) := by decide +kernel
theorem d_X8_wipe_9 : decode cX8_wipe 9 = .ok (.getfield 12, 3) := by decide +kernel
theorem d_X8_wipe_12 : decode cX8_wipe 12 = .ok (.iconst 0, 1) := by decide +kernel
theorem d_X8_wipe_13 : decode cX8_wipe 13 = .ok (.putfield 59, 3) := by decide +kernel
theorem d_X8_wipe_16 : decode cX8_wipe 16 = .ok (.iload_n 1, 1) := by decide +kernel
theorem d_X8_wipe_17 : decode cX8_wipe 17 = .ok (.ireturn, 1) := by decide +kernel
theorem d_X8_fault_0 : decode cX8_fault 0 = .ok (.aload_n 0, 1) := by decide +kernel
theorem d_X8_fault_1 : decode cX8_fault 1 = .ok (.getfield 12, 3) := by decide +kernel
theorem d_X8_fault_4 : decode cX8_fault 4 = .ok (.aload_n 0, 1) := by decide +kernel
theorem d_X8_fault_5 : decode cX8_fault 5 = .ok (.getfield 23, 3) := by decide +kernel
theorem d_X8_fault_8 : decode cX8_fault 8 = .ok (.invokevirtual 63, 3) := by decide +kernel
theorem hd_X7_readInto : cu_hd yX7_readInto 1 := by decide +kernel
theorem k_229 : (.code yX7_readInto cX7_readInto 4 (some .int) : Cond) ∈ cu_G := cu_mem 229 (by decide +kernel) (by decide +kernel)
theorem k_226 : (.methodLink RX8 63 yX7_readInto : Cond) ∈ cu_G := cu_mem 226 (by decide +kernel) (by decide +kernel)
theorem k_227 : (.instanceMethod yX7_readInto : Cond) ∈ cu_G := cu_mem 227 (by decide +kernel) (by decide +kernel)
theorem k_228 : (.selects RX7 yX7_readInto yX7_readInto : Cond) ∈ cu_G := cu_mem 228 (by decide +kernel) (by decide +kernel)
theorem d_X8_fault_11 : decode cX8_fault 11 = .ok (.ireturn, 1) := by decide +kernel
theorem d_X8_hoard_0 : decode cX8_hoard 0 = .ok (.aload_n 0, 1) := by decide +kernel
theorem d_X8_hoard_1 : decode cX8_hoard 1 = .ok (.getfield 12, 3) := by decide +kernel
theorem d_X8_hoard_4 : decode cX8_hoard 4 = .ok (.aload_n 0, 1) := by decide +kernel
theorem d_X8_hoard_5 : decode cX8_hoard 5 = .ok (.getfield 23, 3) := by decide +kernel
theorem d_X8_hoard_8 : decode cX8_hoard 8 = .ok (.invokevirtual 63, 3) := by decide +kernel
theorem d_X8_hoard_11 : decode cX8_hoard 11 = .ok (.bipush (-9), 2) := by decide +kernel
theorem d_X8_hoard_13 : decode cX8_hoard 13 = .ok (.if_icmp .eq 6, 3) := by decide +kernel
theorem d_X8_hoard_16 : decode cX8_hoard 16 = .ok (.bipush (-3), 2) := by decide +kernel
theorem d_X8_hoard_18 : decode cX8_hoard 18 = .ok (.ireturn, 1) := by decide +kernel
theorem d_X8_coin_0 : decode cX8_coin 0 = .ok (.aload_n 0, 1) := by decide +kernel
theorem d_X8_coin_1 : decode cX8_coin 1 = .ok (.getfield 19, 3) := by decide +kernel
theorem d_X8_coin_4 : decode cX8_coin 4 = .ok (.iload_n 1, 1) := by decide +kernel
theorem d_X8_coin_5 : decode cX8_coin 5 = .ok (.invokevirtual 77, 3) := by decide +kernel
theorem k_278 : (.methodLink RX8 77 yX3_hasCoin : Cond) ∈ cu_G := cu_mem 278 (by decide +kernel) (by decide +kernel)
theorem d_X8_coin_8 : decode cX8_coin 8 = .ok (.ifCond .ne 5, 3) := by decide +kernel
theorem d_X8_coin_11 : decode cX8_coin 11 = .ok (.iconst (-1), 1) := by decide +kernel
theorem d_X8_coin_12 : decode cX8_coin 12 = .ok (.ireturn, 1) := by decide +kernel
theorem d_X8_mint_0 : decode cX8_mint 0 = .ok (.aload_n 0, 1) := by decide +kernel
theorem d_X8_mint_1 : decode cX8_mint 1 = .ok (.getfield 19, 3) := by decide +kernel
theorem d_X8_mint_4 : decode cX8_mint 4 = .ok (.iload_n 1, 1) := by decide +kernel
theorem d_X8_mint_5 : decode cX8_mint 5 = .ok (.invokevirtual 100, 3) := by decide +kernel
theorem k_318 : (.methodLink RX8 100 yX3_hasMint : Cond) ∈ cu_G := cu_mem 318 (by decide +kernel) (by decide +kernel)
theorem d_X8_mint_8 : decode cX8_mint 8 = .ok (.ifCond .ne 5, 3) := by decide +kernel
theorem d_X8_mint_11 : decode cX8_mint 11 = .ok (.iconst (-1), 1) := by decide +kernel
theorem d_X8_mint_12 : decode cX8_mint 12 = .ok (.ireturn, 1) := by decide +kernel
theorem d_X8_clean_0 : decode cX8_clean 0 = .ok (.aload_n 0, 1) := by decide +kernel
theorem d_X8_clean_1 : decode cX8_clean 1 = .ok (.iconst 0, 1) := by decide +kernel
theorem d_X8_clean_2 : decode cX8_clean 2 = .ok (.iload_n 1, 1) := by decide +kernel
theorem d_X8_clean_3 : decode cX8_clean 3 = .ok (.iload_n 2, 1) := by decide +kernel
theorem d_X8_clean_4 : decode cX8_clean 4 = .ok (.invokevirtual 118, 3) := by decide +kernel
theorem hd_X8_act : cu_hd yX8_act 3 := by decide +kernel
theorem k_348 : (.code yX8_act cX8_act 5 (some .int) : Cond) ∈ cu_G := cu_mem 348 (by decide +kernel) (by decide +kernel)
theorem k_43 : (.initialized RX8 : Cond) ∈ cu_G := cu_mem 43 (by decide +kernel) (by decide +kernel)
theorem k_345 : (.methodLink RX8 118 yX8_act : Cond) ∈ cu_G := cu_mem 345 (by decide +kernel) (by decide +kernel)
theorem k_347 : (.instanceMethod yX8_act : Cond) ∈ cu_G := cu_mem 347 (by decide +kernel) (by decide +kernel)
theorem k_6 : (.selects RX8 yX8_act yX8_act : Cond) ∈ cu_G := cu_mem 6 (by decide +kernel) (by decide +kernel)
theorem d_X8_clean_7 : decode cX8_clean 7 = .ok (.ireturn, 1) := by decide +kernel
theorem d_X8_date_0 : decode cX8_date 0 = .ok (.aload_n 0, 1) := by decide +kernel
theorem d_X8_date_1 : decode cX8_date 1 = .ok (.iconst 1, 1) := by decide +kernel
theorem d_X8_date_2 : decode cX8_date 2 = .ok (.iload_n 1, 1) := by decide +kernel
theorem d_X8_date_3 : decode cX8_date 3 = .ok (.iload_n 2, 1) := by decide +kernel
theorem d_X8_date_4 : decode cX8_date 4 = .ok (.invokevirtual 118, 3) := by decide +kernel
theorem d_X8_date_7 : decode cX8_date 7 = .ok (.ireturn, 1) := by decide +kernel
theorem d_X8_strike_0 : decode cX8_strike 0 = .ok (.aload_n 0, 1) := by decide +kernel
theorem d_X8_strike_1 : decode cX8_strike 1 = .ok (.iconst 3, 1) := by decide +kernel
theorem d_X8_strike_2 : decode cX8_strike 2 = .ok (.iload_n 1, 1) := by decide +kernel
theorem d_X8_strike_3 : decode cX8_strike 3 = .ok (.iload_n 2, 1) := by decide +kernel
theorem d_X8_strike_4 : decode cX8_strike 4 = .ok (.invokevirtual 118, 3) := by decide +kernel
theorem d_X8_strike_7 : decode cX8_strike 7 = .ok (.ireturn, 1) := by decide +kernel
theorem d_X8_aside_0 : decode cX8_aside 0 = .ok (.aload_n 0, 1) := by decide +kernel
theorem d_X8_aside_1 : decode cX8_aside 1 = .ok (.getfield 19, 3) := by decide +kernel
theorem d_X8_aside_4 : decode cX8_aside 4 = .ok (.iload_n 1, 1) := by decide +kernel
theorem d_X8_aside_5 : decode cX8_aside 5 = .ok (.invokevirtual 77, 3) := by decide +kernel
theorem d_X8_aside_8 : decode cX8_aside 8 = .ok (.ifCond .ne 5, 3) := by decide +kernel
theorem d_X8_aside_11 : decode cX8_aside 11 = .ok (.iconst (-1), 1) := by decide +kernel
theorem d_X8_aside_12 : decode cX8_aside 12 = .ok (.ireturn, 1) := by decide +kernel
theorem d_X8_setRate_0 : decode cX8_setRate 0 = .ok (.aload_n 0, 1) := by decide +kernel
theorem d_X8_setRate_1 : decode cX8_setRate 1 = .ok (.iconst 4, 1) := by decide +kernel
theorem d_X8_setRate_2 : decode cX8_setRate 2 = .ok (.iconst 0, 1) := by decide +kernel
theorem d_X8_setRate_3 : decode cX8_setRate 3 = .ok (.iload_n 1, 1) := by decide +kernel
theorem d_X8_setRate_4 : decode cX8_setRate 4 = .ok (.invokevirtual 118, 3) := by decide +kernel
theorem d_X8_setRate_7 : decode cX8_setRate 7 = .ok (.ireturn, 1) := by decide +kernel
theorem d_X8_setLaw_0 : decode cX8_setLaw 0 = .ok (.aload_n 0, 1) := by decide +kernel
theorem d_X8_setLaw_1 : decode cX8_setLaw 1 = .ok (.iconst 5, 1) := by decide +kernel
theorem d_X8_setLaw_2 : decode cX8_setLaw 2 = .ok (.iconst 0, 1) := by decide +kernel
theorem d_X8_setLaw_3 : decode cX8_setLaw 3 = .ok (.iload_n 1, 1) := by decide +kernel
theorem d_X8_setLaw_4 : decode cX8_setLaw 4 = .ok (.invokevirtual 118, 3) := by decide +kernel
theorem d_X8_setLaw_7 : decode cX8_setLaw 7 = .ok (.ireturn, 1) := by decide +kernel
theorem d_X8_undo_0 : decode cX8_undo 0 = .ok (.aload_n 0, 1) := by decide +kernel
theorem d_X8_undo_1 : decode cX8_undo 1 = .ok (.getfield 29, 3) := by decide +kernel
theorem d_X8_undo_4 : decode cX8_undo 4 = .ok (.getfield 122, 3) := by decide +kernel
theorem k_132 : (.fieldLink RX8 122 "CommonUnits$Acts" "size" "I" : Cond) ∈ cu_G := cu_mem 132 (by decide +kernel) (by decide +kernel)
theorem d_X8_undo_7 : decode cX8_undo 7 = .ok (.ifCond .ne 6, 3) := by decide +kernel
theorem d_X8_undo_10 : decode cX8_undo 10 = .ok (.bipush (-3), 2) := by decide +kernel
theorem d_X8_undo_12 : decode cX8_undo 12 = .ok (.ireturn, 1) := by decide +kernel
theorem d_X8_fits_0 : decode cX8_fits 0 = .ok (.aload_n 0, 1) := by decide +kernel
theorem d_X8_fits_1 : decode cX8_fits 1 = .ok (.getfield 19, 3) := by decide +kernel
theorem d_X8_fits_4 : decode cX8_fits 4 = .ok (.iload_n 1, 1) := by decide +kernel
theorem d_X8_fits_5 : decode cX8_fits 5 = .ok (.invokevirtual 77, 3) := by decide +kernel
theorem d_X8_fits_8 : decode cX8_fits 8 = .ok (.ifCond .ne 5, 3) := by decide +kernel
theorem d_X8_fits_11 : decode cX8_fits 11 = .ok (.iconst (-1), 1) := by decide +kernel
theorem d_X8_fits_12 : decode cX8_fits 12 = .ok (.ireturn, 1) := by decide +kernel
theorem d_X8_chain_0 : decode cX8_chain 0 = .ok (.aload_n 0, 1) := by decide +kernel
theorem d_X8_chain_1 : decode cX8_chain 1 = .ok (.getfield 19, 3) := by decide +kernel
theorem d_X8_chain_4 : decode cX8_chain 4 = .ok (.iload_n 1, 1) := by decide +kernel
theorem d_X8_chain_5 : decode cX8_chain 5 = .ok (.invokevirtual 77, 3) := by decide +kernel
theorem d_X8_chain_8 : decode cX8_chain 8 = .ok (.ifCond .ne 5, 3) := by decide +kernel
theorem d_X8_chain_11 : decode cX8_chain 11 = .ok (.iconst (-1), 1) := by decide +kernel
theorem d_X8_chain_12 : decode cX8_chain 12 = .ok (.ireturn, 1) := by decide +kernel
theorem d_X8_see_0 : decode cX8_see 0 = .ok (.aload_n 0, 1) := by decide +kernel
theorem d_X8_see_1 : decode cX8_see 1 = .ok (.getfield 19, 3) := by decide +kernel
theorem d_X8_see_4 : decode cX8_see 4 = .ok (.iload_n 1, 1) := by decide +kernel
theorem d_X8_see_5 : decode cX8_see 5 = .ok (.invokevirtual 77, 3) := by decide +kernel
theorem d_X8_see_8 : decode cX8_see 8 = .ok (.ifCond .ne 5, 3) := by decide +kernel
theorem d_X8_see_11 : decode cX8_see 11 = .ok (.iconst (-1), 1) := by decide +kernel
theorem d_X8_see_12 : decode cX8_see 12 = .ok (.ireturn, 1) := by decide +kernel
theorem d_X8_unsee_0 : decode cX8_unsee 0 = .ok (.aload_n 0, 1) := by decide +kernel
theorem d_X8_unsee_1 : decode cX8_unsee 1 = .ok (.getfield 43, 3) := by decide +kernel
theorem d_X8_unsee_4 : decode cX8_unsee 4 = .ok (.getfield 206, 3) := by decide +kernel
theorem k_169 : (.fieldLink RX8 206 "CommonUnits$Sightings" "size" "I" : Cond) ∈ cu_G := cu_mem 169 (by decide +kernel) (by decide +kernel)
theorem d_X8_unsee_7 : decode cX8_unsee 7 = .ok (.istore_n 1, 1) := by decide +kernel
theorem d_X8_unsee_8 : decode cX8_unsee 8 = .ok (.aload_n 0, 1) := by decide +kernel
theorem d_X8_unsee_9 : decode cX8_unsee 9 = .ok (.getfield 43, 3) := by decide +kernel
theorem d_X8_unsee_12 : decode cX8_unsee 12 = .ok (.iconst 0, 1) := by decide +kernel
theorem d_X8_unsee_13 : decode cX8_unsee 13 = .ok (.putfield 206, 3) := by decide +kernel
theorem d_X8_unsee_16 : decode cX8_unsee 16 = .ok (.iload_n 1, 1) := by decide +kernel
theorem d_X8_unsee_17 : decode cX8_unsee 17 = .ok (.ireturn, 1) := by decide +kernel
theorem d_X8_share_0 : decode cX8_share 0 = .ok (.aload_n 0, 1) := by decide +kernel
theorem d_X8_share_1 : decode cX8_share 1 = .ok (.getfield 19, 3) := by decide +kernel
theorem d_X8_share_4 : decode cX8_share 4 = .ok (.iload_n 1, 1) := by decide +kernel
theorem d_X8_share_5 : decode cX8_share 5 = .ok (.invokevirtual 77, 3) := by decide +kernel
theorem d_X8_share_8 : decode cX8_share 8 = .ok (.ifCond .ne 5, 3) := by decide +kernel
theorem d_X8_share_11 : decode cX8_share 11 = .ok (.iconst (-1), 1) := by decide +kernel
theorem d_X8_share_12 : decode cX8_share 12 = .ok (.ireturn, 1) := by decide +kernel
theorem d_X8_seed_0 : decode cX8_seed 0 = .ok (.aload_n 0, 1) := by decide +kernel
theorem d_X8_seed_1 : decode cX8_seed 1 = .ok (.getfield 231, 3) := by decide +kernel
theorem k_188 : (.fieldLink RX8 231 "CommonUnits" "state" "J" : Cond) ∈ cu_G := cu_mem 188 (by decide +kernel) (by decide +kernel)
theorem d_X8_seed_4 : decode cX8_seed 4 = .ok (.lstore_n 3, 1) := by decide +kernel
theorem d_X8_seed_5 : decode cX8_seed 5 = .ok (.aload_n 0, 1) := by decide +kernel
theorem d_X8_seed_6 : decode cX8_seed 6 = .ok (.lload_n 1, 1) := by decide +kernel
theorem d_X8_seed_7 : decode cX8_seed 7 = .ok (.putfield 231, 3) := by decide +kernel
theorem d_X8_seed_10 : decode cX8_seed 10 = .ok (.lload_n 3, 1) := by decide +kernel
theorem d_X8_seed_11 : decode cX8_seed 11 = .ok (.lreturn, 1) := by decide +kernel
theorem d_X8_again_0 : decode cX8_again 0 = .ok (.iload_n 1, 1) := by decide +kernel
theorem d_X8_again_1 : decode cX8_again 1 = .ok (.ifCond .lt 8, 3) := by decide +kernel
theorem d_X8_again_9 : decode cX8_again 9 = .ok (.iconst (-1), 1) := by decide +kernel
theorem d_X8_again_10 : decode cX8_again 10 = .ok (.ireturn, 1) := by decide +kernel
theorem d_X8_again_4 : decode cX8_again 4 = .ok (.iload_n 1, 1) := by decide +kernel
theorem d_X8_again_5 : decode cX8_again 5 = .ok (.iconst 2, 1) := by decide +kernel
theorem d_X8_again_6 : decode cX8_again 6 = .ok (.if_icmp .lt 5, 3) := by decide +kernel
theorem d_X8_again_11 : decode cX8_again 11 = .ok (.aload_n 0, 1) := by decide +kernel
theorem d_X8_again_12 : decode cX8_again 12 = .ok (.getfield 51, 3) := by decide +kernel
theorem d_X8_again_15 : decode cX8_again 15 = .ok (.iload_n 1, 1) := by decide +kernel
theorem d_X8_again_16 : decode cX8_again 16 = .ok (.baload, 1) := by decide +kernel
theorem d_X8_again_17 : decode cX8_again 17 = .ok (.ifCond .ne 6, 3) := by decide +kernel
theorem d_X8_again_20 : decode cX8_again 20 = .ok (.bipush (-3), 2) := by decide +kernel
theorem d_X8_again_22 : decode cX8_again 22 = .ok (.ireturn, 1) := by decide +kernel
theorem d_X8_count_0 : decode cX8_count 0 = .ok (.iload_n 1, 1) := by decide +kernel
theorem d_X8_count_1 : decode cX8_count 1 = .ok (.tableswitch 125 0 8 #[51, 59, 67, 75, 83, 91, 99, 109, 117], 51) := by decide +kernel
theorem d_X8_count_52 : decode cX8_count 52 = .ok (.aload_n 0, 1) := by decide +kernel
theorem d_X8_count_53 : decode cX8_count 53 = .ok (.getfield 12, 3) := by decide +kernel
theorem d_X8_count_56 : decode cX8_count 56 = .ok (.getfield 59, 3) := by decide +kernel
theorem d_X8_count_59 : decode cX8_count 59 = .ok (.ireturn, 1) := by decide +kernel
theorem d_X8_count_60 : decode cX8_count 60 = .ok (.aload_n 0, 1) := by decide +kernel
theorem d_X8_count_61 : decode cX8_count 61 = .ok (.getfield 19, 3) := by decide +kernel
theorem d_X8_count_64 : decode cX8_count 64 = .ok (.getfield 74, 3) := by decide +kernel
theorem k_96 : (.fieldLink RX8 74 "CommonUnits$Hoard" "coins" "I" : Cond) ∈ cu_G := cu_mem 96 (by decide +kernel) (by decide +kernel)
theorem d_X8_count_67 : decode cX8_count 67 = .ok (.ireturn, 1) := by decide +kernel
theorem d_X8_count_68 : decode cX8_count 68 = .ok (.aload_n 0, 1) := by decide +kernel
theorem d_X8_count_69 : decode cX8_count 69 = .ok (.getfield 19, 3) := by decide +kernel
theorem d_X8_count_72 : decode cX8_count 72 = .ok (.getfield 152, 3) := by decide +kernel
theorem k_99 : (.fieldLink RX8 152 "CommonUnits$Hoard" "mints" "I" : Cond) ∈ cu_G := cu_mem 99 (by decide +kernel) (by decide +kernel)
theorem d_X8_count_75 : decode cX8_count 75 = .ok (.ireturn, 1) := by decide +kernel
theorem d_X8_count_76 : decode cX8_count 76 = .ok (.aload_n 0, 1) := by decide +kernel
theorem d_X8_count_77 : decode cX8_count 77 = .ok (.getfield 19, 3) := by decide +kernel
theorem d_X8_count_80 : decode cX8_count 80 = .ok (.getfield 242, 3) := by decide +kernel
theorem k_101 : (.fieldLink RX8 242 "CommonUnits$Hoard" "rate" "I" : Cond) ∈ cu_G := cu_mem 101 (by decide +kernel) (by decide +kernel)
theorem d_X8_count_83 : decode cX8_count 83 = .ok (.ireturn, 1) := by decide +kernel
theorem d_X8_count_84 : decode cX8_count 84 = .ok (.aload_n 0, 1) := by decide +kernel
theorem d_X8_count_85 : decode cX8_count 85 = .ok (.getfield 19, 3) := by decide +kernel
theorem d_X8_count_88 : decode cX8_count 88 = .ok (.getfield 245, 3) := by decide +kernel
theorem k_103 : (.fieldLink RX8 245 "CommonUnits$Hoard" "law" "I" : Cond) ∈ cu_G := cu_mem 103 (by decide +kernel) (by decide +kernel)
theorem d_X8_count_91 : decode cX8_count 91 = .ok (.ireturn, 1) := by decide +kernel
theorem d_X8_count_92 : decode cX8_count 92 = .ok (.aload_n 0, 1) := by decide +kernel
theorem d_X8_count_93 : decode cX8_count 93 = .ok (.getfield 19, 3) := by decide +kernel
theorem d_X8_count_96 : decode cX8_count 96 = .ok (.invokevirtual 248, 3) := by decide +kernel
theorem hd_X3_setAside : cu_hd yX3_setAside 0 := by decide +kernel
theorem k_677 : (.code yX3_setAside cX3_setAside 3 (some .int) : Cond) ∈ cu_G := cu_mem 677 (by decide +kernel) (by decide +kernel)
theorem k_674 : (.methodLink RX8 248 yX3_setAside : Cond) ∈ cu_G := cu_mem 674 (by decide +kernel) (by decide +kernel)
theorem k_675 : (.instanceMethod yX3_setAside : Cond) ∈ cu_G := cu_mem 675 (by decide +kernel) (by decide +kernel)
theorem k_676 : (.selects RX3 yX3_setAside yX3_setAside : Cond) ∈ cu_G := cu_mem 676 (by decide +kernel) (by decide +kernel)
theorem d_X8_count_99 : decode cX8_count 99 = .ok (.ireturn, 1) := by decide +kernel
theorem d_X8_count_100 : decode cX8_count 100 = .ok (.aload_n 0, 1) := by decide +kernel
theorem d_X8_count_101 : decode cX8_count 101 = .ok (.getfield 19, 3) := by decide +kernel
theorem d_X8_count_104 : decode cX8_count 104 = .ok (.bipush (-9), 2) := by decide +kernel
theorem d_X8_count_106 : decode cX8_count 106 = .ok (.invokevirtual 106, 3) := by decide +kernel
theorem hd_X3_setOfMint : cu_hd yX3_setOfMint 1 := by decide +kernel
theorem k_325 : (.code yX3_setOfMint cX3_setOfMint 4 (some .int) : Cond) ∈ cu_G := cu_mem 325 (by decide +kernel) (by decide +kernel)
theorem k_322 : (.methodLink RX8 106 yX3_setOfMint : Cond) ∈ cu_G := cu_mem 322 (by decide +kernel) (by decide +kernel)
theorem k_323 : (.instanceMethod yX3_setOfMint : Cond) ∈ cu_G := cu_mem 323 (by decide +kernel) (by decide +kernel)
theorem k_324 : (.selects RX3 yX3_setOfMint yX3_setOfMint : Cond) ∈ cu_G := cu_mem 324 (by decide +kernel) (by decide +kernel)
theorem d_X8_count_109 : decode cX8_count 109 = .ok (.ireturn, 1) := by decide +kernel
theorem d_X8_count_110 : decode cX8_count 110 = .ok (.aload_n 0, 1) := by decide +kernel
theorem d_X8_count_111 : decode cX8_count 111 = .ok (.getfield 29, 3) := by decide +kernel
theorem d_X8_count_114 : decode cX8_count 114 = .ok (.getfield 122, 3) := by decide +kernel
theorem d_X8_count_117 : decode cX8_count 117 = .ok (.ireturn, 1) := by decide +kernel
theorem d_X8_count_118 : decode cX8_count 118 = .ok (.aload_n 0, 1) := by decide +kernel
theorem d_X8_count_119 : decode cX8_count 119 = .ok (.getfield 43, 3) := by decide +kernel
theorem d_X8_count_122 : decode cX8_count 122 = .ok (.getfield 206, 3) := by decide +kernel
theorem d_X8_count_125 : decode cX8_count 125 = .ok (.ireturn, 1) := by decide +kernel
theorem d_X8_count_126 : decode cX8_count 126 = .ok (.bipush (-2), 2) := by decide +kernel
theorem d_X8_count_128 : decode cX8_count 128 = .ok (.ireturn, 1) := by decide +kernel
theorem cu_in2 {x : Int32} (h0 : ¬ x < 0) (h1 : x < 2) : vp_in x 2 := vp_in_iff.mpr (by
  have a := mt cu_lt.mpr h0; have b := cu_lt.mp h1
  have e0 : (0 : Int32).toInt = 0 := by decide
  have e2 : (2 : Int32).toInt = 2 := by decide
  omega)
set_option maxHeartbeats 4000000 in
set_option maxRecDepth 100000 in
theorem c_X7_signAt (l : Launch) (D : va_G) (cI cZ cQ : ClassId) (h w : Nat) : cu_R l D (cu_TY cI cZ cQ) yX7_signAt cX7_signAt 2 .int 0 0 [.ref h, .int 0] [(h, .inr (5, [.ref w, .int 0]))] (fun r => r = (-1)) := by
  refine cu_R.intro (by decide) (Nat.le_of_ble_eq_true rfl) ?_
  intro p e s m args below meth c Q ls S hret hP hK hl
  obtain ⟨hx, hb, hml, hown, hg⟩ := S
  have hown : s.vm.findClass RX7 = some m.cls := hown
  have hl : lv_has ls 2 [(0, .ref h), (1, .int 0)] := hl
  refine lv_iload_n hx hb d_X7_signAt_0 rfl (lv_at hl 1 rfl) ?_
  refine lv_if_lt (tgt := 21) hx hb d_X7_signAt_1 (by decide) (fun c_1 => absurd c_1 (by decide +kernel)) (fun _ => ?_)
  refine lv_iload_n hx hb d_X7_signAt_4 rfl (lv_at hl 1 rfl) ?_
  refine lv_aload_n hx hb d_X7_signAt_5 rfl (lv_at hl 0 rfl) ?_
  refine va_get (D := D) (ci := 5) (v := .int 0) (C := RX7) (T := TX7) (N := 2) hx hb hg cu_iX7 hown hK.1 hP 0 rfl rfl 1 (by decide) (hg _ k_70) (fun _ h9 => h9) rfl d_X7_signAt_6 ?_
  refine lv_icmp_ge (tgt := 21) hx hb d_X7_signAt_9 (by decide) (fun _ => ?_) (fun c_2 => absurd (by decide +kernel) c_2)
  refine lv_iconst (v := (-1)) hx hb d_X7_signAt_21 (by decide) ?_
  exact hret _ _ _ d_X7_signAt_22 (rfl) (rfl)
set_option maxHeartbeats 4000000 in
set_option maxRecDepth 100000 in
theorem c_X7_readInto (l : Launch) (D : va_G) (cI cZ cQ : ClassId) (h w hd : Nat) : cu_R l D (cu_TY cI cZ cQ) yX7_readInto cX7_readInto 4 .int 1 21 [.ref h, .ref hd] [(h, .inr (5, [.ref w, .int 0]))] (fun r => r = 0) := by
  refine cu_R.intro (by decide) (Nat.le_of_ble_eq_true rfl) ?_
  intro p e s m args below meth c Q ls S hret hP hK hl
  obtain ⟨hx, hb, hml, hown, hg⟩ := S
  have hown : s.vm.findClass RX7 = some m.cls := hown
  have hl : lv_has ls 4 [(0, .ref h), (1, .ref hd)] := hl
  refine lv_aload_n hx hb d_X7_readInto_0 rfl (lv_at hl 0 rfl) ?_
  refine lv_iconst (v := 0) hx hb d_X7_readInto_1 (by decide) ?_
  refine cu_VR (wc := [(h, .inr (5, [.ref w, .int 0]))]) (rest := []) [.int 0] ⟨hx, hb, hml, hown, hg⟩ (c_X7_signAt l D cI cZ cQ h w) hd_X7_signAt k_233 k_230 k_232 k_0 k_44 ⟨Nat.le_of_ble_eq_true rfl, Nat.le_of_ble_eq_true rfl⟩ ⟨Nat.le_of_ble_eq_true rfl, Nat.le_of_ble_eq_true rfl⟩ hP hK [0] rfl 0 rfl rfl rfl hl.1 rfl (Nat.le_of_ble_eq_true rfl) d_X7_readInto_2 (fun r_1 hr_2 => ?_)
  subst hr_2
  refine lv_bipush (v := 72) hx hb d_X7_readInto_5 (by decide) ?_
  refine lv_icmp_eq (tgt := 12) hx hb d_X7_readInto_7 (by decide) (fun c_3 => absurd c_3 (by decide +kernel)) (fun _ => ?_)
  refine lv_iconst (v := 0) hx hb d_X7_readInto_10 (by decide) ?_
  exact hret _ _ _ d_X7_readInto_11 (rfl) (rfl)
set_option maxHeartbeats 4000000 in
set_option maxRecDepth 100000 in
theorem c_X7_append (l : Launch) (D : va_G) (cI cZ cQ : ClassId) (h w : Nat) (c1 : Int32) : cu_W l D (cu_TY cI cZ cQ) yX7_append cX7_append 2 .int 0 0 0 0 [.ref h, .int c1] [(h, .inr (5, [.ref w, .int 0])), (w, .inl (cI, 130, .inl (fun _ => 0)))] (fun r ww => (r = 1) ∧ ww = []) := by
  refine cu_W.intro (by decide) (Nat.le_of_ble_eq_true rfl) ?_
  intro p e s m args below meth c Q ls A S hret hP hD hS hA hK hl
  obtain ⟨hx, hb, hml, hown, hg⟩ := S
  have hown : s.vm.findClass RX7 = some m.cls := hown
  have hl : lv_has ls 2 [(0, .ref h), (1, .int c1)] := hl
  refine lv_aload_n hx hb d_X7_append_0 rfl (lv_at hl 0 rfl) ?_
  refine va_get (D := D) (ci := 5) (v := .int 0) (C := RX7) (T := TX7) (N := 2) hx hb hg cu_iX7 hown hK.1 hP 0 rfl rfl 1 (by decide) (hg _ k_70) (fun _ h9 => h9) rfl d_X7_append_1 ?_
  refine lv_sipush (v := 130) hx hb d_X7_append_4 (by decide) ?_
  refine lv_icmp_lt (tgt := 13) hx hb d_X7_append_7 (by decide) (fun _ => ?_) (fun c_1 => absurd (by decide +kernel) c_1)
  refine lv_aload_n hx hb d_X7_append_13 rfl (lv_at hl 0 rfl) ?_
  refine va_get (D := D) (ci := 5) (v := .ref w) (C := RX7) (T := TX7) (N := 2) hx hb hg cu_iX7 hown hK.1 hP 0 rfl rfl 0 (by decide) (hg _ k_69) (fun _ h9 => h9) rfl d_X7_append_14 ?_
  refine lv_aload_n hx hb d_X7_append_17 rfl (lv_at hl 0 rfl) ?_
  refine va_get (D := D) (ci := 5) (v := .int 0) (C := RX7) (T := TX7) (N := 2) hx hb hg cu_iX7 hown hK.1 hP 0 rfl rfl 1 (by decide) (hg _ k_70) (fun _ h9 => h9) rfl d_X7_append_18 ?_
  refine lv_iload_n hx hb d_X7_append_21 rfl (lv_at hl 1 rfl) ?_
  refine va_iast hx hb hK.1 hP hD hS 1 0 rfl rfl (vp_in_nI (n := 0) (N := 130) (Nat.le_of_ble_eq_true rfl) (by decide)) d_X7_append_22 (fun H locs hP hD hS => ?_)
  have hP : va_P D vwCl [(h, .inr (5, [.ref w, .int 0])), (w, .inl (cI, 130, .inl (upd (fun _ => 0) 0 (c1 : Int32))))] H := hP
  have hD : va_D A [(h, .inr (5, [.ref w, .int 0])), (w, .inl (cI, 130, .inl (upd (fun _ => 0) 0 (c1 : Int32))))] := hD
  refine lv_aload_n hx hb d_X7_append_23 rfl (lv_at hl 0 rfl) ?_
  refine lv_dup hx hb d_X7_append_24 rfl ?_
  refine va_get (D := D) (ci := 5) (v := .int 0) (C := RX7) (T := TX7) (N := 2) hx hb hg cu_iX7 hown hK.1 hP 0 rfl rfl 1 (by decide) (hg _ k_70) (fun _ h9 => h9) rfl d_X7_append_25 ?_
  refine lv_iconst (v := 1) hx hb d_X7_append_28 (by decide) ?_
  refine lv_iadd hx hb d_X7_append_29 ?_
  refine cu_topi (y := 1) (by decide +kernel) ?_
  refine va_put (D := D) (ci := 5) (v := .int 1) (ty := .int) (C := RX7) (T := TX7) (N := 2) hx hb hg cu_iX7 tyX7 tyX7_ok nmX7 hown hK.1 hP hD hS 0 rfl rfl 1 (by decide) (hg _ k_70) (fun _ h9 => h9) rfl (by decide +kernel) rfl rfl (Nat.le_of_ble_eq_true rfl) d_X7_append_30 (fun H locs hP hD hS => ?_)
  have hP : va_P D vwCl [(h, .inr (5, [.ref w, .int 1])), (w, .inl (cI, 130, .inl (upd (fun _ => 0) 0 (c1 : Int32))))] H := hP
  have hD : va_D A [(h, .inr (5, [.ref w, .int 1])), (w, .inl (cI, 130, .inl (upd (fun _ => 0) 0 (c1 : Int32))))] := hD
  refine lv_aload_n hx hb d_X7_append_33 rfl (lv_at hl 0 rfl) ?_
  refine va_get (D := D) (ci := 5) (v := .int 1) (C := RX7) (T := TX7) (N := 2) hx hb hg cu_iX7 hown hK.1 hP 0 rfl rfl 1 (by decide) (hg _ k_70) (fun _ h9 => h9) rfl d_X7_append_34 ?_
  exact hret _ _ _ _ [] _ _ _ (hP.sub (ws' := []) [] rfl) (hD.sub (ws' := []) [] (by decide) rfl) hS (Nat.le_of_ble_eq_true rfl) (Nat.le_of_ble_eq_true rfl) d_X7_append_37 (rfl) ⟨rfl, rfl⟩
set_option maxHeartbeats 4000000 in
set_option maxRecDepth 100000 in
theorem c_X0_add (l : Launch) (D : va_G) (cI cZ cQ : ClassId) (h w y a : Nat) (c1 c2 c3 : Int32) : cu_V l D (cu_TY cI cZ cQ) yX0_add cX0_add 4 1 14 0 0 [.ref h, .int c1, .int c2, .int c3] [(h, .inr (0, [.ref w, .ref y, .ref a, .int 0, .int 0])), (w, .inl (cI, 14, .inl (fun _ => 0))), (y, .inl (cI, 14, .inl (fun _ => 0))), (a, .inl (cI, 14, .inl (fun _ => 0)))] (fun ww => ww = []) := by
  refine cu_V.intro (by decide) (Nat.le_of_ble_eq_true rfl) ?_
  intro p e s m args below meth c Q ls A S hin hret hP hD hS hA hK hl
  obtain ⟨hx, hb, hml, hown, hg⟩ := S
  have hown : s.vm.findClass RX0 = some m.cls := hown
  have hin : meth.name = "add" := hin
  have hl : lv_has ls 4 [(0, .ref h), (1, .int c1), (2, .int c2), (3, .int c3)] := hl
  refine lv_aload_n hx hb d_X0_add_0 rfl (lv_at hl 0 rfl) ?_
  refine va_get (D := D) (ci := 0) (v := .ref w) (C := RX0) (T := TX0) (N := 5) hx hb hg cu_iX0 hown hK.1 hP 0 rfl rfl 0 (by decide) (hg _ k_127) (fun _ h9 => h9) rfl d_X0_add_1 ?_
  refine lv_aload_n hx hb d_X0_add_4 rfl (lv_at hl 0 rfl) ?_
  refine va_get (D := D) (ci := 0) (v := .int 0) (C := RX0) (T := TX0) (N := 5) hx hb hg cu_iX0 hown hK.1 hP 0 rfl rfl 3 (by decide) (hg _ k_130) (fun _ h9 => h9) rfl d_X0_add_5 ?_
  refine lv_iload_n hx hb d_X0_add_8 rfl (lv_at hl 1 rfl) ?_
  refine va_iast hx hb hK.1 hP hD hS 1 0 rfl rfl (vp_in_nI (n := 0) (N := 14) (Nat.le_of_ble_eq_true rfl) (by decide)) d_X0_add_9 (fun H locs hP hD hS => ?_)
  have hP : va_P D vwCl [(h, .inr (0, [.ref w, .ref y, .ref a, .int 0, .int 0])), (w, .inl (cI, 14, .inl (upd (fun _ => 0) 0 (c1 : Int32)))), (y, .inl (cI, 14, .inl (fun _ => 0))), (a, .inl (cI, 14, .inl (fun _ => 0)))] H := hP
  have hD : va_D A [(h, .inr (0, [.ref w, .ref y, .ref a, .int 0, .int 0])), (w, .inl (cI, 14, .inl (upd (fun _ => 0) 0 (c1 : Int32)))), (y, .inl (cI, 14, .inl (fun _ => 0))), (a, .inl (cI, 14, .inl (fun _ => 0)))] := hD
  refine lv_aload_n hx hb d_X0_add_10 rfl (lv_at hl 0 rfl) ?_
  refine va_get (D := D) (ci := 0) (v := .ref y) (C := RX0) (T := TX0) (N := 5) hx hb hg cu_iX0 hown hK.1 hP 0 rfl rfl 1 (by decide) (hg _ k_128) (fun _ h9 => h9) rfl d_X0_add_11 ?_
  refine lv_aload_n hx hb d_X0_add_14 rfl (lv_at hl 0 rfl) ?_
  refine va_get (D := D) (ci := 0) (v := .int 0) (C := RX0) (T := TX0) (N := 5) hx hb hg cu_iX0 hown hK.1 hP 0 rfl rfl 3 (by decide) (hg _ k_130) (fun _ h9 => h9) rfl d_X0_add_15 ?_
  refine lv_iload_n hx hb d_X0_add_18 rfl (lv_at hl 2 rfl) ?_
  refine va_iast hx hb hK.1 hP hD hS 2 0 rfl rfl (vp_in_nI (n := 0) (N := 14) (Nat.le_of_ble_eq_true rfl) (by decide)) d_X0_add_19 (fun H locs hP hD hS => ?_)
  have hP : va_P D vwCl [(h, .inr (0, [.ref w, .ref y, .ref a, .int 0, .int 0])), (w, .inl (cI, 14, .inl (upd (fun _ => 0) 0 (c1 : Int32)))), (y, .inl (cI, 14, .inl (upd (fun _ => 0) 0 (c2 : Int32)))), (a, .inl (cI, 14, .inl (fun _ => 0)))] H := hP
  have hD : va_D A [(h, .inr (0, [.ref w, .ref y, .ref a, .int 0, .int 0])), (w, .inl (cI, 14, .inl (upd (fun _ => 0) 0 (c1 : Int32)))), (y, .inl (cI, 14, .inl (upd (fun _ => 0) 0 (c2 : Int32)))), (a, .inl (cI, 14, .inl (fun _ => 0)))] := hD
  refine lv_aload_n hx hb d_X0_add_20 rfl (lv_at hl 0 rfl) ?_
  refine va_get (D := D) (ci := 0) (v := .ref a) (C := RX0) (T := TX0) (N := 5) hx hb hg cu_iX0 hown hK.1 hP 0 rfl rfl 2 (by decide) (hg _ k_129) (fun _ h9 => h9) rfl d_X0_add_21 ?_
  refine lv_aload_n hx hb d_X0_add_24 rfl (lv_at hl 0 rfl) ?_
  refine va_get (D := D) (ci := 0) (v := .int 0) (C := RX0) (T := TX0) (N := 5) hx hb hg cu_iX0 hown hK.1 hP 0 rfl rfl 3 (by decide) (hg _ k_130) (fun _ h9 => h9) rfl d_X0_add_25 ?_
  refine lv_iload_n hx hb d_X0_add_28 rfl (lv_at hl 3 rfl) ?_
  refine va_iast hx hb hK.1 hP hD hS 3 0 rfl rfl (vp_in_nI (n := 0) (N := 14) (Nat.le_of_ble_eq_true rfl) (by decide)) d_X0_add_29 (fun H locs hP hD hS => ?_)
  have hP : va_P D vwCl [(h, .inr (0, [.ref w, .ref y, .ref a, .int 0, .int 0])), (w, .inl (cI, 14, .inl (upd (fun _ => 0) 0 (c1 : Int32)))), (y, .inl (cI, 14, .inl (upd (fun _ => 0) 0 (c2 : Int32)))), (a, .inl (cI, 14, .inl (upd (fun _ => 0) 0 (c3 : Int32))))] H := hP
  have hD : va_D A [(h, .inr (0, [.ref w, .ref y, .ref a, .int 0, .int 0])), (w, .inl (cI, 14, .inl (upd (fun _ => 0) 0 (c1 : Int32)))), (y, .inl (cI, 14, .inl (upd (fun _ => 0) 0 (c2 : Int32)))), (a, .inl (cI, 14, .inl (upd (fun _ => 0) 0 (c3 : Int32))))] := hD
  refine lv_aload_n hx hb d_X0_add_30 rfl (lv_at hl 0 rfl) ?_
  refine lv_aload_n hx hb d_X0_add_31 rfl (lv_at hl 0 rfl) ?_
  refine va_get (D := D) (ci := 0) (v := .int 0) (C := RX0) (T := TX0) (N := 5) hx hb hg cu_iX0 hown hK.1 hP 0 rfl rfl 3 (by decide) (hg _ k_130) (fun _ h9 => h9) rfl d_X0_add_32 ?_
  refine lv_iconst (v := 1) hx hb d_X0_add_35 (by decide) ?_
  refine lv_iadd hx hb d_X0_add_36 ?_
  refine cu_topi (y := 1) (by decide +kernel) ?_
  refine lv_bipush (v := 14) hx hb d_X0_add_37 (by decide) ?_
  refine lv_irem hx hb d_X0_add_39 (by decide) ?_
  refine cu_topi (y := 1) (by decide +kernel) ?_
  refine va_put (D := D) (ci := 0) (v := .int 1) (ty := .int) (C := RX0) (T := TX0) (N := 5) hx hb hg cu_iX0 tyX0 tyX0_ok nmX0 hown hK.1 hP hD hS 0 rfl rfl 3 (by decide) (hg _ k_130) (fun _ h9 => h9) rfl (by decide +kernel) rfl rfl (Nat.le_of_ble_eq_true rfl) d_X0_add_40 (fun H locs hP hD hS => ?_)
  have hP : va_P D vwCl [(h, .inr (0, [.ref w, .ref y, .ref a, .int 1, .int 0])), (w, .inl (cI, 14, .inl (upd (fun _ => 0) 0 (c1 : Int32)))), (y, .inl (cI, 14, .inl (upd (fun _ => 0) 0 (c2 : Int32)))), (a, .inl (cI, 14, .inl (upd (fun _ => 0) 0 (c3 : Int32))))] H := hP
  have hD : va_D A [(h, .inr (0, [.ref w, .ref y, .ref a, .int 1, .int 0])), (w, .inl (cI, 14, .inl (upd (fun _ => 0) 0 (c1 : Int32)))), (y, .inl (cI, 14, .inl (upd (fun _ => 0) 0 (c2 : Int32)))), (a, .inl (cI, 14, .inl (upd (fun _ => 0) 0 (c3 : Int32))))] := hD
  refine lv_aload_n hx hb d_X0_add_43 rfl (lv_at hl 0 rfl) ?_
  refine lv_aload_n hx hb d_X0_add_44 rfl (lv_at hl 0 rfl) ?_
  refine va_get (D := D) (ci := 0) (v := .int 0) (C := RX0) (T := TX0) (N := 5) hx hb hg cu_iX0 hown hK.1 hP 0 rfl rfl 4 (by decide) (hg _ k_131) (fun _ h9 => h9) rfl d_X0_add_45 ?_
  refine lv_iconst (v := 1) hx hb d_X0_add_48 (by decide) ?_
  refine lv_iadd hx hb d_X0_add_49 ?_
  refine cu_topi (y := 1) (by decide +kernel) ?_
  refine lv_bipush (v := 14) hx hb d_X0_add_50 (by decide) ?_
  refine va_mmin hx hb (by rw [hml, hl.1]) hown (hg _ k_360) (hg _ k_361) (hg _ k_52) (hg _ k_362) (Nat.le_of_ble_eq_true rfl) (Nat.le_of_ble_eq_true rfl) (Nat.le_of_ble_eq_true rfl) (Nat.le_of_ble_eq_true rfl) d_X0_add_52 ?_
  refine cu_topi (y := 1) (by decide +kernel) ?_
  refine va_put (D := D) (ci := 0) (v := .int 1) (ty := .int) (C := RX0) (T := TX0) (N := 5) hx hb hg cu_iX0 tyX0 tyX0_ok nmX0 hown hK.1 hP hD hS 0 rfl rfl 4 (by decide) (hg _ k_131) (fun _ h9 => h9) rfl (by decide +kernel) rfl rfl (Nat.le_of_ble_eq_true rfl) d_X0_add_55 (fun H locs hP hD hS => ?_)
  have hP : va_P D vwCl [(h, .inr (0, [.ref w, .ref y, .ref a, .int 1, .int 1])), (w, .inl (cI, 14, .inl (upd (fun _ => 0) 0 (c1 : Int32)))), (y, .inl (cI, 14, .inl (upd (fun _ => 0) 0 (c2 : Int32)))), (a, .inl (cI, 14, .inl (upd (fun _ => 0) 0 (c3 : Int32))))] H := hP
  have hD : va_D A [(h, .inr (0, [.ref w, .ref y, .ref a, .int 1, .int 1])), (w, .inl (cI, 14, .inl (upd (fun _ => 0) 0 (c1 : Int32)))), (y, .inl (cI, 14, .inl (upd (fun _ => 0) 0 (c2 : Int32)))), (a, .inl (cI, 14, .inl (upd (fun _ => 0) 0 (c3 : Int32))))] := hD
  exact hret _ _ _ _ [] _ _ (hP.sub (ws' := []) [] rfl) (hD.sub (ws' := []) [] (by decide) rfl) hS (Nat.le_of_ble_eq_true rfl) (Nat.le_of_ble_eq_true rfl) d_X0_add_58 rfl
set_option maxHeartbeats 4000000 in
set_option maxRecDepth 100000 in
theorem c_X3_exchange (l : Launch) (D : va_G) (cI cZ cQ : ClassId) (h : Nat) (c1 c2 c3 c4 : Int32) : cu_R l D (cu_TY cI cZ cQ) yX3_exchange cX3_exchange 7 .int 0 0 [.ref h, .int 0, .int c1, .int c2, .int c3, .int c4] [] (fun r => r = (-1)) := by
  refine cu_R.intro (by decide) (Nat.le_of_ble_eq_true rfl) ?_
  intro p e s m args below meth c Q ls S hret hP hK hl
  obtain ⟨hx, hb, hml, hown, hg⟩ := S
  have hown : s.vm.findClass RX3 = some m.cls := hown
  have hl : lv_has ls 7 [(0, .ref h), (1, .int 0), (2, .int c1), (3, .int c2), (4, .int c3), (5, .int c4)] := hl
  refine lv_iload_n hx hb d_X3_exchange_0 rfl (lv_at hl 2 rfl) ?_
  refine lv_if_lt (tgt := 15) hx hb d_X3_exchange_1 (by decide) (fun c_1 => ?_) (fun c_1 => ?_)
  · skip
    refine lv_iconst (v := (-1)) hx hb d_X3_exchange_15 (by decide) ?_
    exact hret _ _ _ d_X3_exchange_16 (rfl) (rfl)
  · skip
    refine lv_iload_n hx hb d_X3_exchange_4 rfl (lv_at hl 2 rfl) ?_
    refine lv_iload_n hx hb d_X3_exchange_5 rfl (lv_at hl 1 rfl) ?_
    refine lv_icmp_ge (tgt := 15) hx hb d_X3_exchange_6 (by decide) (fun _ => ?_) (fun c_2 => absurd (Int32.not_lt.mp c_1) c_2)
    refine lv_iconst (v := (-1)) hx hb d_X3_exchange_15 (by decide) ?_
    exact hret _ _ _ d_X3_exchange_16 (rfl) (rfl)
set_option maxHeartbeats 4000000 in
set_option maxRecDepth 100000 in
theorem c_X3_put0 (l : Launch) (D : va_G) (cI cZ cQ : ClassId) (h w y a u : Nat) (rt lw : Int32) (c1 c2 : Int32) : cu_R l D (cu_TY cI cZ cQ) yX3_put cX3_put 5 .int 1 26 [.ref h, .int 0, .int c1, .int c2] [(h, .inr (2, [.ref w, .ref y, .ref a, .ref u, .int 0, .int 0, .int rt, .int lw]))] (fun r => r = (-1)) := by
  refine cu_R.intro (by decide) (Nat.le_of_ble_eq_true rfl) ?_
  intro p e s m args below meth c Q ls S hret hP hK hl
  obtain ⟨hx, hb, hml, hown, hg⟩ := S
  have hown : s.vm.findClass RX3 = some m.cls := hown
  have hl : lv_has ls 5 [(0, .ref h), (1, .int 0), (2, .int c1), (3, .int c2)] := hl
  refine lv_bipush (v := (-2)) hx hb d_X3_put_0 (by decide) ?_
  refine lv_istore (lv' := [(4, .int (-2)), (0, .ref h), (1, .int 0), (2, .int c1), (3, .int c2)]) hx hb d_X3_put_2 hl (by decide) rfl (fun ls hl => ?_)
  refine lv_iload_n hx hb d_X3_put_4 rfl (lv_at hl 2 rfl) ?_
  refine lv_tableIn (off := 39) (tgt := 44) hx hb d_X3_put_5 (by decide) (by decide) (by decide +kernel) (by decide) ?_
  refine lv_aload_n hx hb d_X3_put_44 rfl (lv_at hl 1 rfl) ?_
  refine va_get (D := D) (ci := 2) (v := .ref w) (C := RX3) (T := TX3) (N := 8) hx hb hg cu_iX3 hown hK.1 hP 0 rfl rfl 0 (by decide) (hg _ k_84) (fun _ h9 => h9) rfl d_X3_put_45 ?_
  refine lv_aload_n hx hb d_X3_put_48 rfl (lv_at hl 1 rfl) ?_
  refine va_get (D := D) (ci := 2) (v := .int 0) (C := RX3) (T := TX3) (N := 8) hx hb hg cu_iX3 hown hK.1 hP 0 rfl rfl 4 (by decide) (hg _ k_94) (fun _ h9 => h9) rfl d_X3_put_49 ?_
  refine lv_iload_n hx hb d_X3_put_52 rfl (lv_at hl 3 rfl) ?_
  refine lv_iload_n hx hb d_X3_put_53 rfl (lv_at hl 4 rfl) ?_
  refine lv_iconst (v := 1) hx hb d_X3_put_54 (by decide) ?_
  refine lv_sipush (v := 999) hx hb d_X3_put_55 (by decide) ?_
  refine cu_SR (wc := []) (rest := []) [.ref w, .int 0, .int c1, .int c2, .int 1, .int 999] ⟨hx, hb, hml, hown, hg⟩ (c_X3_exchange l D cI cZ cQ w c1 c2 1 999) hd_X3_exchange k_355 k_353 k_354 k_45 ⟨Nat.le_of_ble_eq_true rfl, Nat.le_of_ble_eq_true rfl⟩ ⟨Nat.le_of_ble_eq_true rfl, Nat.le_of_ble_eq_true rfl⟩ hP hK [] rfl rfl hl.1 rfl (Nat.le_of_ble_eq_true rfl) d_X3_put_58 (fun r_1 hr_2 => ?_)
  subst hr_2
  exact hret _ _ _ d_X3_put_61 (rfl) (rfl)
set_option maxHeartbeats 4000000 in
set_option maxRecDepth 100000 in
theorem c_X3_put1 (l : Launch) (D : va_G) (cI cZ cQ : ClassId) (h w y a u : Nat) (rt lw : Int32) (c1 c2 : Int32) : cu_R l D (cu_TY cI cZ cQ) yX3_put cX3_put 5 .int 1 26 [.ref h, .int 1, .int c1, .int c2] [(h, .inr (2, [.ref w, .ref y, .ref a, .ref u, .int 0, .int 0, .int rt, .int lw]))] (fun r => r = (-1)) := by
  refine cu_R.intro (by decide) (Nat.le_of_ble_eq_true rfl) ?_
  intro p e s m args below meth c Q ls S hret hP hK hl
  obtain ⟨hx, hb, hml, hown, hg⟩ := S
  have hown : s.vm.findClass RX3 = some m.cls := hown
  have hl : lv_has ls 5 [(0, .ref h), (1, .int 1), (2, .int c1), (3, .int c2)] := hl
  refine lv_bipush (v := (-2)) hx hb d_X3_put_0 (by decide) ?_
  refine lv_istore (lv' := [(4, .int (-2)), (0, .ref h), (1, .int 1), (2, .int c1), (3, .int c2)]) hx hb d_X3_put_2 hl (by decide) rfl (fun ls hl => ?_)
  refine lv_iload_n hx hb d_X3_put_4 rfl (lv_at hl 2 rfl) ?_
  refine lv_tableIn (off := 57) (tgt := 62) hx hb d_X3_put_5 (by decide) (by decide) (by decide +kernel) (by decide) ?_
  refine lv_aload_n hx hb d_X3_put_62 rfl (lv_at hl 1 rfl) ?_
  refine va_get (D := D) (ci := 2) (v := .ref y) (C := RX3) (T := TX3) (N := 8) hx hb hg cu_iX3 hown hK.1 hP 0 rfl rfl 1 (by decide) (hg _ k_87) (fun _ h9 => h9) rfl d_X3_put_63 ?_
  refine lv_aload_n hx hb d_X3_put_66 rfl (lv_at hl 1 rfl) ?_
  refine va_get (D := D) (ci := 2) (v := .int 0) (C := RX3) (T := TX3) (N := 8) hx hb hg cu_iX3 hown hK.1 hP 0 rfl rfl 4 (by decide) (hg _ k_94) (fun _ h9 => h9) rfl d_X3_put_67 ?_
  refine lv_iload_n hx hb d_X3_put_70 rfl (lv_at hl 3 rfl) ?_
  refine lv_iload_n hx hb d_X3_put_71 rfl (lv_at hl 4 rfl) ?_
  refine lv_iconst (v := 0) hx hb d_X3_put_72 (by decide) ?_
  refine lv_bipush (v := 9) hx hb d_X3_put_73 (by decide) ?_
  refine cu_SR (wc := []) (rest := []) [.ref y, .int 0, .int c1, .int c2, .int 0, .int 9] ⟨hx, hb, hml, hown, hg⟩ (c_X3_exchange l D cI cZ cQ y c1 c2 0 9) hd_X3_exchange k_355 k_353 k_354 k_45 ⟨Nat.le_of_ble_eq_true rfl, Nat.le_of_ble_eq_true rfl⟩ ⟨Nat.le_of_ble_eq_true rfl, Nat.le_of_ble_eq_true rfl⟩ hP hK [] rfl rfl hl.1 rfl (Nat.le_of_ble_eq_true rfl) d_X3_put_75 (fun r_1 hr_2 => ?_)
  subst hr_2
  exact hret _ _ _ d_X3_put_78 (rfl) (rfl)
set_option maxHeartbeats 4000000 in
set_option maxRecDepth 100000 in
theorem c_X3_put2 (l : Launch) (D : va_G) (cI cZ cQ : ClassId) (h w y a u : Nat) (rt lw : Int32) (c1 c2 : Int32) : cu_R l D (cu_TY cI cZ cQ) yX3_put cX3_put 5 .int 1 26 [.ref h, .int 2, .int c1, .int c2] [(h, .inr (2, [.ref w, .ref y, .ref a, .ref u, .int 0, .int 0, .int rt, .int lw]))] (fun r => r = (-1)) := by
  refine cu_R.intro (by decide) (Nat.le_of_ble_eq_true rfl) ?_
  intro p e s m args below meth c Q ls S hret hP hK hl
  obtain ⟨hx, hb, hml, hown, hg⟩ := S
  have hown : s.vm.findClass RX3 = some m.cls := hown
  have hl : lv_has ls 5 [(0, .ref h), (1, .int 2), (2, .int c1), (3, .int c2)] := hl
  refine lv_bipush (v := (-2)) hx hb d_X3_put_0 (by decide) ?_
  refine lv_istore (lv' := [(4, .int (-2)), (0, .ref h), (1, .int 2), (2, .int c1), (3, .int c2)]) hx hb d_X3_put_2 hl (by decide) rfl (fun ls hl => ?_)
  refine lv_iload_n hx hb d_X3_put_4 rfl (lv_at hl 2 rfl) ?_
  refine lv_tableIn (off := 74) (tgt := 79) hx hb d_X3_put_5 (by decide) (by decide) (by decide +kernel) (by decide) ?_
  refine lv_aload_n hx hb d_X3_put_79 rfl (lv_at hl 1 rfl) ?_
  refine va_get (D := D) (ci := 2) (v := .ref a) (C := RX3) (T := TX3) (N := 8) hx hb hg cu_iX3 hown hK.1 hP 0 rfl rfl 2 (by decide) (hg _ k_89) (fun _ h9 => h9) rfl d_X3_put_80 ?_
  refine lv_aload_n hx hb d_X3_put_83 rfl (lv_at hl 1 rfl) ?_
  refine va_get (D := D) (ci := 2) (v := .int 0) (C := RX3) (T := TX3) (N := 8) hx hb hg cu_iX3 hown hK.1 hP 0 rfl rfl 4 (by decide) (hg _ k_94) (fun _ h9 => h9) rfl d_X3_put_84 ?_
  refine lv_iload_n hx hb d_X3_put_87 rfl (lv_at hl 3 rfl) ?_
  refine lv_iload_n hx hb d_X3_put_88 rfl (lv_at hl 4 rfl) ?_
  refine lv_iconst (v := 0) hx hb d_X3_put_89 (by decide) ?_
  refine lv_iconst (v := 1) hx hb d_X3_put_90 (by decide) ?_
  refine cu_SR (wc := []) (rest := []) [.ref a, .int 0, .int c1, .int c2, .int 0, .int 1] ⟨hx, hb, hml, hown, hg⟩ (c_X3_exchange l D cI cZ cQ a c1 c2 0 1) hd_X3_exchange k_355 k_353 k_354 k_45 ⟨Nat.le_of_ble_eq_true rfl, Nat.le_of_ble_eq_true rfl⟩ ⟨Nat.le_of_ble_eq_true rfl, Nat.le_of_ble_eq_true rfl⟩ hP hK [] rfl rfl hl.1 rfl (Nat.le_of_ble_eq_true rfl) d_X3_put_91 (fun r_1 hr_2 => ?_)
  subst hr_2
  exact hret _ _ _ d_X3_put_94 (rfl) (rfl)
set_option maxHeartbeats 4000000 in
set_option maxRecDepth 100000 in
theorem c_X3_put3 (l : Launch) (D : va_G) (cI cZ cQ : ClassId) (h w y a u : Nat) (rt lw : Int32) (c1 c2 : Int32) : cu_R l D (cu_TY cI cZ cQ) yX3_put cX3_put 5 .int 1 26 [.ref h, .int 3, .int c1, .int c2] [(h, .inr (2, [.ref w, .ref y, .ref a, .ref u, .int 0, .int 0, .int rt, .int lw]))] (fun r => r = (-1)) := by
  refine cu_R.intro (by decide) (Nat.le_of_ble_eq_true rfl) ?_
  intro p e s m args below meth c Q ls S hret hP hK hl
  obtain ⟨hx, hb, hml, hown, hg⟩ := S
  have hown : s.vm.findClass RX3 = some m.cls := hown
  have hl : lv_has ls 5 [(0, .ref h), (1, .int 3), (2, .int c1), (3, .int c2)] := hl
  refine lv_bipush (v := (-2)) hx hb d_X3_put_0 (by decide) ?_
  refine lv_istore (lv' := [(4, .int (-2)), (0, .ref h), (1, .int 3), (2, .int c1), (3, .int c2)]) hx hb d_X3_put_2 hl (by decide) rfl (fun ls hl => ?_)
  refine lv_iload_n hx hb d_X3_put_4 rfl (lv_at hl 2 rfl) ?_
  refine lv_tableIn (off := 90) (tgt := 95) hx hb d_X3_put_5 (by decide) (by decide) (by decide +kernel) (by decide) ?_
  refine lv_aload_n hx hb d_X3_put_95 rfl (lv_at hl 1 rfl) ?_
  refine va_get (D := D) (ci := 2) (v := .ref u) (C := RX3) (T := TX3) (N := 8) hx hb hg cu_iX3 hown hK.1 hP 0 rfl rfl 3 (by decide) (hg _ k_92) (fun _ h9 => h9) rfl d_X3_put_96 ?_
  refine lv_aload_n hx hb d_X3_put_99 rfl (lv_at hl 1 rfl) ?_
  refine va_get (D := D) (ci := 2) (v := .int 0) (C := RX3) (T := TX3) (N := 8) hx hb hg cu_iX3 hown hK.1 hP 0 rfl rfl 5 (by decide) (hg _ k_97) (fun _ h9 => h9) rfl d_X3_put_100 ?_
  refine lv_iload_n hx hb d_X3_put_103 rfl (lv_at hl 3 rfl) ?_
  refine lv_iload_n hx hb d_X3_put_104 rfl (lv_at hl 4 rfl) ?_
  refine lv_iconst (v := 1) hx hb d_X3_put_105 (by decide) ?_
  refine lv_sipush (v := 999) hx hb d_X3_put_106 (by decide) ?_
  refine cu_SR (wc := []) (rest := []) [.ref u, .int 0, .int c1, .int c2, .int 1, .int 999] ⟨hx, hb, hml, hown, hg⟩ (c_X3_exchange l D cI cZ cQ u c1 c2 1 999) hd_X3_exchange k_355 k_353 k_354 k_45 ⟨Nat.le_of_ble_eq_true rfl, Nat.le_of_ble_eq_true rfl⟩ ⟨Nat.le_of_ble_eq_true rfl, Nat.le_of_ble_eq_true rfl⟩ hP hK [] rfl rfl hl.1 rfl (Nat.le_of_ble_eq_true rfl) d_X3_put_109 (fun r_1 hr_2 => ?_)
  subst hr_2
  exact hret _ _ _ d_X3_put_112 (rfl) (rfl)
def cu_s9 (v : Int32) : Int32 := if v < 0 then (-2) else if 9 < v then (-2) else 1
def cu_s2 (v lw : Int32) : Int32 := if v < 0 then (-2) else if 2 < v then (-2) else lw
set_option maxHeartbeats 4000000 in
set_option maxRecDepth 100000 in
theorem c_X3_put4 (l : Launch) (D : va_G) (cI cZ cQ : ClassId) (h w y a u : Nat) (lw c1 v : Int32) : cu_W l D (cu_TY cI cZ cQ) yX3_put cX3_put 5 .int 0 0 0 0 [.ref h, .int 4, .int c1, .int v] [(h, .inr (2, [.ref w, .ref y, .ref a, .ref u, .int 0, .int 0, .int 1, .int lw]))] (fun r ww => (r = cu_s9 v) ∧ ww = []) := by
  refine cu_W.intro (by decide) (Nat.le_of_ble_eq_true rfl) ?_
  intro p e s m args below meth c Q ls A S hret hP hD hS hA hK hl
  obtain ⟨hx, hb, hml, hown, hg⟩ := S
  have hown : s.vm.findClass RX3 = some m.cls := hown
  have hl : lv_has ls 5 [(0, .ref h), (1, .int 4), (2, .int c1), (3, .int v)] := hl
  refine lv_bipush (v := (-2)) hx hb d_X3_put_0 (by decide) ?_
  refine lv_istore (lv' := [(4, .int (-2)), (0, .ref h), (1, .int 4), (2, .int c1), (3, .int v)]) hx hb d_X3_put_2 hl (by decide) rfl (fun ls hl => ?_)
  refine lv_iload_n hx hb d_X3_put_4 rfl (lv_at hl 2 rfl) ?_
  refine lv_tableIn (off := 108) (tgt := 113) hx hb d_X3_put_5 (by decide) (by decide) (by decide +kernel) (by decide) ?_
  refine lv_iload_n hx hb d_X3_put_113 rfl (lv_at hl 4 rfl) ?_
  refine lv_if_lt (tgt := 134) hx hb d_X3_put_114 (by decide) (fun c_1 => ?_) (fun c_1 => ?_)
  · skip
    refine lv_iload hx hb d_X3_put_134 (lv_at hl 0 rfl) ?_
    exact hret _ _ _ _ [] _ _ _ (hP.sub (ws' := []) [] rfl) (hD.sub (ws' := []) [] (by decide) rfl) hS (Nat.le_of_ble_eq_true rfl) (Nat.le_of_ble_eq_true rfl) d_X3_put_136 (rfl) ⟨by unfold cu_s9; rw [if_pos c_1], rfl⟩
  · skip
    refine lv_iload_n hx hb d_X3_put_117 rfl (lv_at hl 4 rfl) ?_
    refine lv_bipush (v := 9) hx hb d_X3_put_118 (by decide) ?_
    refine lv_icmp_gt (tgt := 134) hx hb d_X3_put_120 (by decide) (fun c_2 => ?_) (fun c_2 => ?_)
    · skip
      refine lv_iload hx hb d_X3_put_134 (lv_at hl 0 rfl) ?_
      exact hret _ _ _ _ [] _ _ _ (hP.sub (ws' := []) [] rfl) (hD.sub (ws' := []) [] (by decide) rfl) hS (Nat.le_of_ble_eq_true rfl) (Nat.le_of_ble_eq_true rfl) d_X3_put_136 (rfl) ⟨by unfold cu_s9; rw [if_neg c_1, if_pos c_2], rfl⟩
    · skip
      refine lv_aload_n hx hb d_X3_put_123 rfl (lv_at hl 1 rfl) ?_
      refine va_get (D := D) (ci := 2) (v := .int 1) (C := RX3) (T := TX3) (N := 8) hx hb hg cu_iX3 hown hK.1 hP 0 rfl rfl 6 (by decide) (hg _ k_100) (fun _ h9 => h9) rfl d_X3_put_124 ?_
      refine lv_istore (lv' := [(4, .int 1), (0, .ref h), (1, .int 4), (2, .int c1), (3, .int v)]) hx hb d_X3_put_127 hl (by decide) rfl (fun ls hl => ?_)
      refine lv_aload_n hx hb d_X3_put_129 rfl (lv_at hl 1 rfl) ?_
      refine lv_iload_n hx hb d_X3_put_130 rfl (lv_at hl 4 rfl) ?_
      refine va_put (D := D) (ci := 2) (v := .int v) (ty := .int) (C := RX3) (T := TX3) (N := 8) hx hb hg cu_iX3 tyX3 tyX3_ok nmX3 hown hK.1 hP hD hS 0 rfl rfl 6 (by decide) (hg _ k_100) (fun _ h9 => h9) rfl (by decide +kernel) rfl rfl (Nat.le_of_ble_eq_true rfl) d_X3_put_131 (fun H locs hP hD hS => ?_)
      have hP : va_P D vwCl [(h, .inr (2, [.ref w, .ref y, .ref a, .ref u, .int 0, .int 0, .int v, .int lw]))] H := hP
      have hD : va_D A [(h, .inr (2, [.ref w, .ref y, .ref a, .ref u, .int 0, .int 0, .int v, .int lw]))] := hD
      refine lv_iload hx hb d_X3_put_134 (lv_at hl 0 rfl) ?_
      exact hret _ _ _ _ [] _ _ _ (hP.sub (ws' := []) [] rfl) (hD.sub (ws' := []) [] (by decide) rfl) hS (Nat.le_of_ble_eq_true rfl) (Nat.le_of_ble_eq_true rfl) d_X3_put_136 (rfl) ⟨by unfold cu_s9; rw [if_neg c_1, if_neg c_2], rfl⟩
set_option maxHeartbeats 4000000 in
set_option maxRecDepth 100000 in
theorem c_X3_put5 (l : Launch) (D : va_G) (cI cZ cQ : ClassId) (h w y a u : Nat) (rt lw : Int32) (c1 v : Int32) : cu_W l D (cu_TY cI cZ cQ) yX3_put cX3_put 5 .int 0 0 0 0 [.ref h, .int 5, .int c1, .int v] [(h, .inr (2, [.ref w, .ref y, .ref a, .ref u, .int 0, .int 0, .int rt, .int lw]))] (fun r ww => (r = cu_s2 v lw) ∧ ∃ lz : Int32, ((¬ lw < 0) → ¬ lz < 0) ∧ ww = [(h, .inr (2, [.ref w, .ref y, .ref a, .ref u, .int 0, .int 0, .int rt, .int lz]))]) := by
  refine cu_W.intro (by decide) (Nat.le_of_ble_eq_true rfl) ?_
  intro p e s m args below meth c Q ls A S hret hP hD hS hA hK hl
  obtain ⟨hx, hb, hml, hown, hg⟩ := S
  have hown : s.vm.findClass RX3 = some m.cls := hown
  have hl : lv_has ls 5 [(0, .ref h), (1, .int 5), (2, .int c1), (3, .int v)] := hl
  refine lv_bipush (v := (-2)) hx hb d_X3_put_0 (by decide) ?_
  refine lv_istore (lv' := [(4, .int (-2)), (0, .ref h), (1, .int 5), (2, .int c1), (3, .int v)]) hx hb d_X3_put_2 hl (by decide) rfl (fun ls hl => ?_)
  refine lv_iload_n hx hb d_X3_put_4 rfl (lv_at hl 2 rfl) ?_
  refine lv_tableIn (off := 132) (tgt := 137) hx hb d_X3_put_5 (by decide) (by decide) (by decide +kernel) (by decide) ?_
  refine lv_iload_n hx hb d_X3_put_137 rfl (lv_at hl 4 rfl) ?_
  refine lv_if_lt (tgt := 157) hx hb d_X3_put_138 (by decide) (fun c_1 => ?_) (fun c_1 => ?_)
  · skip
    refine lv_iload hx hb d_X3_put_157 (lv_at hl 0 rfl) ?_
    exact hret _ _ _ _ [(h, .inr (2, [.ref w, .ref y, .ref a, .ref u, .int 0, .int 0, .int rt, .int lw]))] _ _ _ (hP.sub (ws' := [(h, .inr (2, [.ref w, .ref y, .ref a, .ref u, .int 0, .int 0, .int rt, .int lw]))]) [0] rfl) (hD.sub (ws' := [(h, .inr (2, [.ref w, .ref y, .ref a, .ref u, .int 0, .int 0, .int rt, .int lw]))]) [0] (by decide) rfl) hS (Nat.le_of_ble_eq_true rfl) (Nat.le_of_ble_eq_true rfl) d_X3_put_159 (rfl) ⟨by unfold cu_s2; rw [if_pos c_1], lw, fun h9 => h9, rfl⟩
  · skip
    refine lv_iload_n hx hb d_X3_put_141 rfl (lv_at hl 4 rfl) ?_
    refine lv_iconst (v := 2) hx hb d_X3_put_142 (by decide) ?_
    refine lv_icmp_gt (tgt := 157) hx hb d_X3_put_143 (by decide) (fun c_2 => ?_) (fun c_2 => ?_)
    · skip
      refine lv_iload hx hb d_X3_put_157 (lv_at hl 0 rfl) ?_
      exact hret _ _ _ _ [(h, .inr (2, [.ref w, .ref y, .ref a, .ref u, .int 0, .int 0, .int rt, .int lw]))] _ _ _ (hP.sub (ws' := [(h, .inr (2, [.ref w, .ref y, .ref a, .ref u, .int 0, .int 0, .int rt, .int lw]))]) [0] rfl) (hD.sub (ws' := [(h, .inr (2, [.ref w, .ref y, .ref a, .ref u, .int 0, .int 0, .int rt, .int lw]))]) [0] (by decide) rfl) hS (Nat.le_of_ble_eq_true rfl) (Nat.le_of_ble_eq_true rfl) d_X3_put_159 (rfl) ⟨by unfold cu_s2; rw [if_neg c_1, if_pos c_2], lw, fun h9 => h9, rfl⟩
    · skip
      refine lv_aload_n hx hb d_X3_put_146 rfl (lv_at hl 1 rfl) ?_
      refine va_get (D := D) (ci := 2) (v := .int lw) (C := RX3) (T := TX3) (N := 8) hx hb hg cu_iX3 hown hK.1 hP 0 rfl rfl 7 (by decide) (hg _ k_102) (fun _ h9 => h9) rfl d_X3_put_147 ?_
      refine lv_istore (lv' := [(4, .int lw), (0, .ref h), (1, .int 5), (2, .int c1), (3, .int v)]) hx hb d_X3_put_150 hl (by decide) rfl (fun ls hl => ?_)
      refine lv_aload_n hx hb d_X3_put_152 rfl (lv_at hl 1 rfl) ?_
      refine lv_iload_n hx hb d_X3_put_153 rfl (lv_at hl 4 rfl) ?_
      refine va_put (D := D) (ci := 2) (v := .int v) (ty := .int) (C := RX3) (T := TX3) (N := 8) hx hb hg cu_iX3 tyX3 tyX3_ok nmX3 hown hK.1 hP hD hS 0 rfl rfl 7 (by decide) (hg _ k_102) (fun _ h9 => h9) rfl (by decide +kernel) rfl rfl (Nat.le_of_ble_eq_true rfl) d_X3_put_154 (fun H locs hP hD hS => ?_)
      have hP : va_P D vwCl [(h, .inr (2, [.ref w, .ref y, .ref a, .ref u, .int 0, .int 0, .int rt, .int v]))] H := hP
      have hD : va_D A [(h, .inr (2, [.ref w, .ref y, .ref a, .ref u, .int 0, .int 0, .int rt, .int v]))] := hD
      refine lv_iload hx hb d_X3_put_157 (lv_at hl 0 rfl) ?_
      exact hret _ _ _ _ [(h, .inr (2, [.ref w, .ref y, .ref a, .ref u, .int 0, .int 0, .int rt, .int v]))] _ _ _ (hP.sub (ws' := [(h, .inr (2, [.ref w, .ref y, .ref a, .ref u, .int 0, .int 0, .int rt, .int v]))]) [0] rfl) (hD.sub (ws' := [(h, .inr (2, [.ref w, .ref y, .ref a, .ref u, .int 0, .int 0, .int rt, .int v]))]) [0] (by decide) rfl) hS (Nat.le_of_ble_eq_true rfl) (Nat.le_of_ble_eq_true rfl) d_X3_put_159 (rfl) ⟨by unfold cu_s2; rw [if_neg c_1, if_neg c_2], v, fun _ => c_1, rfl⟩
set_option maxHeartbeats 4000000 in
set_option maxRecDepth 100000 in
theorem c_X8_act0 (l : Launch) (D : va_G) (cI cZ cQ : ClassId) (x tx nw sp ac cr sg sl fl : Nat) (w y a u : Nat) (c1 c2 : Int32) : cu_R l D (cu_TY cI cZ cQ) yX8_act cX8_act 5 .int 2 50 [.ref x, .int 0, .int c1, .int c2] [(x, .inr (6, [.ref tx, .ref nw, .ref sp, .ref ac, .ref cr, .ref sg, .ref sl, .ref fl, .null, .long 0])), (nw, .inr (2, [.ref w, .ref y, .ref a, .ref u, .int 0, .int 0, .int 1, .int 0]))] (fun r => r = (-1)) := by
  refine cu_R.intro (by decide) (Nat.le_of_ble_eq_true rfl) ?_
  intro p e s m args below meth c Q ls S hret hP hK hl
  obtain ⟨hx, hb, hml, hown, hg⟩ := S
  have hown : s.vm.findClass RX8 = some m.cls := hown
  have hl : lv_has ls 5 [(0, .ref x), (1, .int 0), (2, .int c1), (3, .int c2)] := hl
  refine lv_aload_n hx hb d_X8_act_0 rfl (lv_at hl 0 rfl) ?_
  refine va_get (D := D) (ci := 6) (v := .ref nw) (C := RX8) (T := TX8) (N := 10) hx hb hg cu_iX8 hown hK.1 hP 0 rfl rfl 1 (by decide) (hg _ k_180) (fun _ h9 => h9) rfl d_X8_act_1 ?_
  refine lv_iload_n hx hb d_X8_act_4 rfl (lv_at hl 1 rfl) ?_
  refine lv_iload_n hx hb d_X8_act_5 rfl (lv_at hl 2 rfl) ?_
  refine lv_iload_n hx hb d_X8_act_6 rfl (lv_at hl 3 rfl) ?_
  refine cu_VR (wc := [(nw, .inr (2, [.ref w, .ref y, .ref a, .ref u, .int 0, .int 0, .int 1, .int 0]))]) (rest := []) [.int 0, .int c1, .int c2] ⟨hx, hb, hml, hown, hg⟩ (c_X3_put0 l D cI cZ cQ nw w y a u 1 0 c1 c2) hd_X3_put k_352 k_349 k_350 k_351 k_45 ⟨Nat.le_of_ble_eq_true rfl, Nat.le_of_ble_eq_true rfl⟩ ⟨Nat.le_of_ble_eq_true rfl, Nat.le_of_ble_eq_true rfl⟩ hP hK [1] rfl 0 rfl rfl rfl hl.1 rfl (Nat.le_of_ble_eq_true rfl) d_X8_act_7 (fun r_1 hr_2 => ?_)
  subst hr_2
  refine lv_istore (lv' := [(4, .int (-1)), (0, .ref x), (1, .int 0), (2, .int c1), (3, .int c2)]) hx hb d_X8_act_10 hl (by decide) rfl (fun ls hl => ?_)
  refine lv_iload hx hb d_X8_act_12 (lv_at hl 0 rfl) ?_
  refine lv_if_lt (tgt := 28) hx hb d_X8_act_14 (by decide) (fun _ => ?_) (fun c_3 => absurd (by decide +kernel) c_3)
  refine lv_iload hx hb d_X8_act_28 (lv_at hl 0 rfl) ?_
  exact hret _ _ _ d_X8_act_30 (rfl) (rfl)
set_option maxHeartbeats 4000000 in
set_option maxRecDepth 100000 in
theorem c_X8_act1 (l : Launch) (D : va_G) (cI cZ cQ : ClassId) (x tx nw sp ac cr sg sl fl : Nat) (w y a u : Nat) (c1 c2 : Int32) : cu_R l D (cu_TY cI cZ cQ) yX8_act cX8_act 5 .int 2 50 [.ref x, .int 1, .int c1, .int c2] [(x, .inr (6, [.ref tx, .ref nw, .ref sp, .ref ac, .ref cr, .ref sg, .ref sl, .ref fl, .null, .long 0])), (nw, .inr (2, [.ref w, .ref y, .ref a, .ref u, .int 0, .int 0, .int 1, .int 0]))] (fun r => r = (-1)) := by
  refine cu_R.intro (by decide) (Nat.le_of_ble_eq_true rfl) ?_
  intro p e s m args below meth c Q ls S hret hP hK hl
  obtain ⟨hx, hb, hml, hown, hg⟩ := S
  have hown : s.vm.findClass RX8 = some m.cls := hown
  have hl : lv_has ls 5 [(0, .ref x), (1, .int 1), (2, .int c1), (3, .int c2)] := hl
  refine lv_aload_n hx hb d_X8_act_0 rfl (lv_at hl 0 rfl) ?_
  refine va_get (D := D) (ci := 6) (v := .ref nw) (C := RX8) (T := TX8) (N := 10) hx hb hg cu_iX8 hown hK.1 hP 0 rfl rfl 1 (by decide) (hg _ k_180) (fun _ h9 => h9) rfl d_X8_act_1 ?_
  refine lv_iload_n hx hb d_X8_act_4 rfl (lv_at hl 1 rfl) ?_
  refine lv_iload_n hx hb d_X8_act_5 rfl (lv_at hl 2 rfl) ?_
  refine lv_iload_n hx hb d_X8_act_6 rfl (lv_at hl 3 rfl) ?_
  refine cu_VR (wc := [(nw, .inr (2, [.ref w, .ref y, .ref a, .ref u, .int 0, .int 0, .int 1, .int 0]))]) (rest := []) [.int 1, .int c1, .int c2] ⟨hx, hb, hml, hown, hg⟩ (c_X3_put1 l D cI cZ cQ nw w y a u 1 0 c1 c2) hd_X3_put k_352 k_349 k_350 k_351 k_45 ⟨Nat.le_of_ble_eq_true rfl, Nat.le_of_ble_eq_true rfl⟩ ⟨Nat.le_of_ble_eq_true rfl, Nat.le_of_ble_eq_true rfl⟩ hP hK [1] rfl 0 rfl rfl rfl hl.1 rfl (Nat.le_of_ble_eq_true rfl) d_X8_act_7 (fun r_1 hr_2 => ?_)
  subst hr_2
  refine lv_istore (lv' := [(4, .int (-1)), (0, .ref x), (1, .int 1), (2, .int c1), (3, .int c2)]) hx hb d_X8_act_10 hl (by decide) rfl (fun ls hl => ?_)
  refine lv_iload hx hb d_X8_act_12 (lv_at hl 0 rfl) ?_
  refine lv_if_lt (tgt := 28) hx hb d_X8_act_14 (by decide) (fun _ => ?_) (fun c_3 => absurd (by decide +kernel) c_3)
  refine lv_iload hx hb d_X8_act_28 (lv_at hl 0 rfl) ?_
  exact hret _ _ _ d_X8_act_30 (rfl) (rfl)
set_option maxHeartbeats 4000000 in
set_option maxRecDepth 100000 in
theorem c_X8_act2 (l : Launch) (D : va_G) (cI cZ cQ : ClassId) (x tx nw sp ac cr sg sl fl : Nat) (w y a u : Nat) (c1 c2 : Int32) : cu_R l D (cu_TY cI cZ cQ) yX8_act cX8_act 5 .int 2 50 [.ref x, .int 2, .int c1, .int c2] [(x, .inr (6, [.ref tx, .ref nw, .ref sp, .ref ac, .ref cr, .ref sg, .ref sl, .ref fl, .null, .long 0])), (nw, .inr (2, [.ref w, .ref y, .ref a, .ref u, .int 0, .int 0, .int 1, .int 0]))] (fun r => r = (-1)) := by
  refine cu_R.intro (by decide) (Nat.le_of_ble_eq_true rfl) ?_
  intro p e s m args below meth c Q ls S hret hP hK hl
  obtain ⟨hx, hb, hml, hown, hg⟩ := S
  have hown : s.vm.findClass RX8 = some m.cls := hown
  have hl : lv_has ls 5 [(0, .ref x), (1, .int 2), (2, .int c1), (3, .int c2)] := hl
  refine lv_aload_n hx hb d_X8_act_0 rfl (lv_at hl 0 rfl) ?_
  refine va_get (D := D) (ci := 6) (v := .ref nw) (C := RX8) (T := TX8) (N := 10) hx hb hg cu_iX8 hown hK.1 hP 0 rfl rfl 1 (by decide) (hg _ k_180) (fun _ h9 => h9) rfl d_X8_act_1 ?_
  refine lv_iload_n hx hb d_X8_act_4 rfl (lv_at hl 1 rfl) ?_
  refine lv_iload_n hx hb d_X8_act_5 rfl (lv_at hl 2 rfl) ?_
  refine lv_iload_n hx hb d_X8_act_6 rfl (lv_at hl 3 rfl) ?_
  refine cu_VR (wc := [(nw, .inr (2, [.ref w, .ref y, .ref a, .ref u, .int 0, .int 0, .int 1, .int 0]))]) (rest := []) [.int 2, .int c1, .int c2] ⟨hx, hb, hml, hown, hg⟩ (c_X3_put2 l D cI cZ cQ nw w y a u 1 0 c1 c2) hd_X3_put k_352 k_349 k_350 k_351 k_45 ⟨Nat.le_of_ble_eq_true rfl, Nat.le_of_ble_eq_true rfl⟩ ⟨Nat.le_of_ble_eq_true rfl, Nat.le_of_ble_eq_true rfl⟩ hP hK [1] rfl 0 rfl rfl rfl hl.1 rfl (Nat.le_of_ble_eq_true rfl) d_X8_act_7 (fun r_1 hr_2 => ?_)
  subst hr_2
  refine lv_istore (lv' := [(4, .int (-1)), (0, .ref x), (1, .int 2), (2, .int c1), (3, .int c2)]) hx hb d_X8_act_10 hl (by decide) rfl (fun ls hl => ?_)
  refine lv_iload hx hb d_X8_act_12 (lv_at hl 0 rfl) ?_
  refine lv_if_lt (tgt := 28) hx hb d_X8_act_14 (by decide) (fun _ => ?_) (fun c_3 => absurd (by decide +kernel) c_3)
  refine lv_iload hx hb d_X8_act_28 (lv_at hl 0 rfl) ?_
  exact hret _ _ _ d_X8_act_30 (rfl) (rfl)
set_option maxHeartbeats 4000000 in
set_option maxRecDepth 100000 in
theorem c_X8_act3 (l : Launch) (D : va_G) (cI cZ cQ : ClassId) (x tx nw sp ac cr sg sl fl : Nat) (w y a u : Nat) (c1 c2 : Int32) : cu_R l D (cu_TY cI cZ cQ) yX8_act cX8_act 5 .int 2 50 [.ref x, .int 3, .int c1, .int c2] [(x, .inr (6, [.ref tx, .ref nw, .ref sp, .ref ac, .ref cr, .ref sg, .ref sl, .ref fl, .null, .long 0])), (nw, .inr (2, [.ref w, .ref y, .ref a, .ref u, .int 0, .int 0, .int 1, .int 0]))] (fun r => r = (-1)) := by
  refine cu_R.intro (by decide) (Nat.le_of_ble_eq_true rfl) ?_
  intro p e s m args below meth c Q ls S hret hP hK hl
  obtain ⟨hx, hb, hml, hown, hg⟩ := S
  have hown : s.vm.findClass RX8 = some m.cls := hown
  have hl : lv_has ls 5 [(0, .ref x), (1, .int 3), (2, .int c1), (3, .int c2)] := hl
  refine lv_aload_n hx hb d_X8_act_0 rfl (lv_at hl 0 rfl) ?_
  refine va_get (D := D) (ci := 6) (v := .ref nw) (C := RX8) (T := TX8) (N := 10) hx hb hg cu_iX8 hown hK.1 hP 0 rfl rfl 1 (by decide) (hg _ k_180) (fun _ h9 => h9) rfl d_X8_act_1 ?_
  refine lv_iload_n hx hb d_X8_act_4 rfl (lv_at hl 1 rfl) ?_
  refine lv_iload_n hx hb d_X8_act_5 rfl (lv_at hl 2 rfl) ?_
  refine lv_iload_n hx hb d_X8_act_6 rfl (lv_at hl 3 rfl) ?_
  refine cu_VR (wc := [(nw, .inr (2, [.ref w, .ref y, .ref a, .ref u, .int 0, .int 0, .int 1, .int 0]))]) (rest := []) [.int 3, .int c1, .int c2] ⟨hx, hb, hml, hown, hg⟩ (c_X3_put3 l D cI cZ cQ nw w y a u 1 0 c1 c2) hd_X3_put k_352 k_349 k_350 k_351 k_45 ⟨Nat.le_of_ble_eq_true rfl, Nat.le_of_ble_eq_true rfl⟩ ⟨Nat.le_of_ble_eq_true rfl, Nat.le_of_ble_eq_true rfl⟩ hP hK [1] rfl 0 rfl rfl rfl hl.1 rfl (Nat.le_of_ble_eq_true rfl) d_X8_act_7 (fun r_1 hr_2 => ?_)
  subst hr_2
  refine lv_istore (lv' := [(4, .int (-1)), (0, .ref x), (1, .int 3), (2, .int c1), (3, .int c2)]) hx hb d_X8_act_10 hl (by decide) rfl (fun ls hl => ?_)
  refine lv_iload hx hb d_X8_act_12 (lv_at hl 0 rfl) ?_
  refine lv_if_lt (tgt := 28) hx hb d_X8_act_14 (by decide) (fun _ => ?_) (fun c_3 => absurd (by decide +kernel) c_3)
  refine lv_iload hx hb d_X8_act_28 (lv_at hl 0 rfl) ?_
  exact hret _ _ _ d_X8_act_30 (rfl) (rfl)
set_option maxHeartbeats 4000000 in
set_option maxRecDepth 100000 in
theorem c_X8_act4 (l : Launch) (D : va_G) (cI cZ cQ : ClassId) (x tx nw sp ac cr sg sl fl : Nat) (w y a u : Nat) (k1 k2 k3 : Nat) (c1 v : Int32) : cu_W l D (cu_TY cI cZ cQ) yX8_act cX8_act 5 .int 2 37 0 0 [.ref x, .int 4, .int c1, .int v] [(x, .inr (6, [.ref tx, .ref nw, .ref sp, .ref ac, .ref cr, .ref sg, .ref sl, .ref fl, .null, .long 0])), (nw, .inr (2, [.ref w, .ref y, .ref a, .ref u, .int 0, .int 0, .int 1, .int 0])), (ac, .inr (0, [.ref k1, .ref k2, .ref k3, .int 0, .int 0])), (k1, .inl (cI, 14, .inl (fun _ => 0))), (k2, .inl (cI, 14, .inl (fun _ => 0))), (k3, .inl (cI, 14, .inl (fun _ => 0)))] (fun r ww => (r = cu_s9 v) ∧ ww = []) := by
  refine cu_W.intro (by decide) (Nat.le_of_ble_eq_true rfl) ?_
  intro p e s m args below meth c Q ls A S hret hP hD hS hA hK hl
  obtain ⟨hx, hb, hml, hown, hg⟩ := S
  have hown : s.vm.findClass RX8 = some m.cls := hown
  have hl : lv_has ls 5 [(0, .ref x), (1, .int 4), (2, .int c1), (3, .int v)] := hl
  refine lv_aload_n hx hb d_X8_act_0 rfl (lv_at hl 0 rfl) ?_
  refine va_get (D := D) (ci := 6) (v := .ref nw) (C := RX8) (T := TX8) (N := 10) hx hb hg cu_iX8 hown hK.1 hP 0 rfl rfl 1 (by decide) (hg _ k_180) (fun _ h9 => h9) rfl d_X8_act_1 ?_
  refine lv_iload_n hx hb d_X8_act_4 rfl (lv_at hl 1 rfl) ?_
  refine lv_iload_n hx hb d_X8_act_5 rfl (lv_at hl 2 rfl) ?_
  refine lv_iload_n hx hb d_X8_act_6 rfl (lv_at hl 3 rfl) ?_
  refine cu_VW (wc := [(nw, .inr (2, [.ref w, .ref y, .ref a, .ref u, .int 0, .int 0, .int 1, .int 0]))]) (wr := [(x, .inr (6, [.ref tx, .ref nw, .ref sp, .ref ac, .ref cr, .ref sg, .ref sl, .ref fl, .null, .long 0])), (ac, .inr (0, [.ref k1, .ref k2, .ref k3, .int 0, .int 0])), (k1, .inl (cI, 14, .inl (fun _ => 0))), (k2, .inl (cI, 14, .inl (fun _ => 0))), (k3, .inl (cI, 14, .inl (fun _ => 0)))]) (rest := []) [.int 4, .int c1, .int v] ⟨hx, hb, hml, hown, hg⟩ (c_X3_put4 l D cI cZ cQ nw w y a u 0 c1 v) hd_X3_put k_352 k_349 k_350 k_351 k_45 ⟨Nat.le_of_ble_eq_true rfl, Nat.le_of_ble_eq_true rfl⟩ ⟨Nat.le_of_ble_eq_true rfl, Nat.le_of_ble_eq_true rfl⟩ hP hD hS hA hK [1] [0, 2, 3, 4, 5] rfl rfl (by decide) (by decide) (by decide) 0 rfl rfl rfl hl.1 rfl (Nat.le_of_ble_eq_true rfl) d_X8_act_7 (fun r_1 w_3 H locs hw_2 hP hD hS => ?_)
  obtain ⟨hr_4, rfl⟩ := hw_2
  subst hr_4
  have hP : va_P D vwCl [(x, .inr (6, [.ref tx, .ref nw, .ref sp, .ref ac, .ref cr, .ref sg, .ref sl, .ref fl, .null, .long 0])), (ac, .inr (0, [.ref k1, .ref k2, .ref k3, .int 0, .int 0])), (k1, .inl (cI, 14, .inl (fun _ => 0))), (k2, .inl (cI, 14, .inl (fun _ => 0))), (k3, .inl (cI, 14, .inl (fun _ => 0)))] H := hP
  have hD : va_D A [(x, .inr (6, [.ref tx, .ref nw, .ref sp, .ref ac, .ref cr, .ref sg, .ref sl, .ref fl, .null, .long 0])), (ac, .inr (0, [.ref k1, .ref k2, .ref k3, .int 0, .int 0])), (k1, .inl (cI, 14, .inl (fun _ => 0))), (k2, .inl (cI, 14, .inl (fun _ => 0))), (k3, .inl (cI, 14, .inl (fun _ => 0)))] := hD
  by_cases hc_5 : v < 0
  · skip
    refine cu_topi (y := (-2)) (by unfold cu_s9; rw [if_pos hc_5]) ?_
    refine lv_istore (lv' := [(4, .int (-2)), (0, .ref x), (1, .int 4), (2, .int c1), (3, .int v)]) hx hb d_X8_act_10 hl (by decide) rfl (fun ls hl => ?_)
    refine lv_iload hx hb d_X8_act_12 (lv_at hl 0 rfl) ?_
    refine lv_if_lt (tgt := 28) hx hb d_X8_act_14 (by decide) (fun _ => ?_) (fun c_6 => absurd (by decide +kernel) c_6)
    refine lv_iload hx hb d_X8_act_28 (lv_at hl 0 rfl) ?_
    exact hret _ _ _ _ [] _ _ _ (hP.sub (ws' := []) [] rfl) (hD.sub (ws' := []) [] (by decide) rfl) hS (Nat.le_of_ble_eq_true rfl) (Nat.le_of_ble_eq_true rfl) d_X8_act_30 (rfl) ⟨by unfold cu_s9; rw [if_pos hc_5], rfl⟩
  · skip
    by_cases hc_7 : 9 < v
    · skip
      refine cu_topi (y := (-2)) (by unfold cu_s9; rw [if_neg hc_5, if_pos hc_7]) ?_
      refine lv_istore (lv' := [(4, .int (-2)), (0, .ref x), (1, .int 4), (2, .int c1), (3, .int v)]) hx hb d_X8_act_10 hl (by decide) rfl (fun ls hl => ?_)
      refine lv_iload hx hb d_X8_act_12 (lv_at hl 0 rfl) ?_
      refine lv_if_lt (tgt := 28) hx hb d_X8_act_14 (by decide) (fun _ => ?_) (fun c_8 => absurd (by decide +kernel) c_8)
      refine lv_iload hx hb d_X8_act_28 (lv_at hl 0 rfl) ?_
      exact hret _ _ _ _ [] _ _ _ (hP.sub (ws' := []) [] rfl) (hD.sub (ws' := []) [] (by decide) rfl) hS (Nat.le_of_ble_eq_true rfl) (Nat.le_of_ble_eq_true rfl) d_X8_act_30 (rfl) ⟨by unfold cu_s9; rw [if_neg hc_5, if_pos hc_7], rfl⟩
    · skip
      refine cu_topi (y := 1) (by unfold cu_s9; rw [if_neg hc_5, if_neg hc_7]) ?_
      refine lv_istore (lv' := [(4, .int 1), (0, .ref x), (1, .int 4), (2, .int c1), (3, .int v)]) hx hb d_X8_act_10 hl (by decide) rfl (fun ls hl => ?_)
      refine lv_iload hx hb d_X8_act_12 (lv_at hl 0 rfl) ?_
      refine lv_if_lt (tgt := 28) hx hb d_X8_act_14 (by decide) (fun c_9 => absurd c_9 (by decide +kernel)) (fun _ => ?_)
      refine lv_aload_n hx hb d_X8_act_17 rfl (lv_at hl 1 rfl) ?_
      refine va_get (D := D) (ci := 6) (v := .ref ac) (C := RX8) (T := TX8) (N := 10) hx hb hg cu_iX8 hown hK.1 hP 0 rfl rfl 3 (by decide) (hg _ k_182) (fun _ h9 => h9) rfl d_X8_act_18 ?_
      refine lv_iload_n hx hb d_X8_act_21 rfl (lv_at hl 2 rfl) ?_
      refine lv_iload_n hx hb d_X8_act_22 rfl (lv_at hl 3 rfl) ?_
      refine lv_iload hx hb d_X8_act_23 (lv_at hl 0 rfl) ?_
      refine cu_VV (wc := [(ac, .inr (0, [.ref k1, .ref k2, .ref k3, .int 0, .int 0])), (k1, .inl (cI, 14, .inl (fun _ => 0))), (k2, .inl (cI, 14, .inl (fun _ => 0))), (k3, .inl (cI, 14, .inl (fun _ => 0)))]) (wr := [(x, .inr (6, [.ref tx, .ref nw, .ref sp, .ref ac, .ref cr, .ref sg, .ref sl, .ref fl, .null, .long 0]))]) (rest := []) [.int 4, .int c1, .int 1] ⟨hx, hb, hml, hown, hg⟩ (c_X0_add l D cI cZ cQ ac k1 k2 k3 4 c1 1) hd_X0_add k_359 k_356 k_357 k_358 k_46 ⟨Nat.le_of_ble_eq_true rfl, Nat.le_of_ble_eq_true rfl⟩ ⟨Nat.le_of_ble_eq_true rfl, Nat.le_of_ble_eq_true rfl⟩ hP hD hS hA hK [1, 2, 3, 4] [0] rfl rfl (by decide) (by decide) (by decide) 0 rfl rfl rfl hl.1 rfl (Nat.le_of_ble_eq_true rfl) d_X8_act_25 (fun w_12 H locs hw_11 hP hD hS => ?_)
      subst hw_11
      have hP : va_P D vwCl [(x, .inr (6, [.ref tx, .ref nw, .ref sp, .ref ac, .ref cr, .ref sg, .ref sl, .ref fl, .null, .long 0]))] H := hP
      have hD : va_D A [(x, .inr (6, [.ref tx, .ref nw, .ref sp, .ref ac, .ref cr, .ref sg, .ref sl, .ref fl, .null, .long 0]))] := hD
      refine lv_iload hx hb d_X8_act_28 (lv_at hl 0 rfl) ?_
      exact hret _ _ _ _ [] _ _ _ (hP.sub (ws' := []) [] rfl) (hD.sub (ws' := []) [] (by decide) rfl) hS (Nat.le_of_ble_eq_true rfl) (Nat.le_of_ble_eq_true rfl) d_X8_act_30 (rfl) ⟨by unfold cu_s9; rw [if_neg hc_5, if_neg hc_7], rfl⟩
set_option maxHeartbeats 4000000 in
set_option maxRecDepth 100000 in
theorem c_X8_act5 (l : Launch) (D : va_G) (cI cZ cQ : ClassId) (x tx nw sp ac cr sg sl fl : Nat) (w y a u : Nat) (k1 k2 k3 : Nat) (c1 v : Int32) : cu_W l D (cu_TY cI cZ cQ) yX8_act cX8_act 5 .int 2 37 0 0 [.ref x, .int 5, .int c1, .int v] [(x, .inr (6, [.ref tx, .ref nw, .ref sp, .ref ac, .ref cr, .ref sg, .ref sl, .ref fl, .null, .long 0])), (nw, .inr (2, [.ref w, .ref y, .ref a, .ref u, .int 0, .int 0, .int 1, .int 0])), (ac, .inr (0, [.ref k1, .ref k2, .ref k3, .int 0, .int 0])), (k1, .inl (cI, 14, .inl (fun _ => 0))), (k2, .inl (cI, 14, .inl (fun _ => 0))), (k3, .inl (cI, 14, .inl (fun _ => 0)))] (fun r ww => (r = cu_s2 v 0) ∧ ww = []) := by
  refine cu_W.intro (by decide) (Nat.le_of_ble_eq_true rfl) ?_
  intro p e s m args below meth c Q ls A S hret hP hD hS hA hK hl
  obtain ⟨hx, hb, hml, hown, hg⟩ := S
  have hown : s.vm.findClass RX8 = some m.cls := hown
  have hl : lv_has ls 5 [(0, .ref x), (1, .int 5), (2, .int c1), (3, .int v)] := hl
  refine lv_aload_n hx hb d_X8_act_0 rfl (lv_at hl 0 rfl) ?_
  refine va_get (D := D) (ci := 6) (v := .ref nw) (C := RX8) (T := TX8) (N := 10) hx hb hg cu_iX8 hown hK.1 hP 0 rfl rfl 1 (by decide) (hg _ k_180) (fun _ h9 => h9) rfl d_X8_act_1 ?_
  refine lv_iload_n hx hb d_X8_act_4 rfl (lv_at hl 1 rfl) ?_
  refine lv_iload_n hx hb d_X8_act_5 rfl (lv_at hl 2 rfl) ?_
  refine lv_iload_n hx hb d_X8_act_6 rfl (lv_at hl 3 rfl) ?_
  refine cu_VW (wc := [(nw, .inr (2, [.ref w, .ref y, .ref a, .ref u, .int 0, .int 0, .int 1, .int 0]))]) (wr := [(x, .inr (6, [.ref tx, .ref nw, .ref sp, .ref ac, .ref cr, .ref sg, .ref sl, .ref fl, .null, .long 0])), (ac, .inr (0, [.ref k1, .ref k2, .ref k3, .int 0, .int 0])), (k1, .inl (cI, 14, .inl (fun _ => 0))), (k2, .inl (cI, 14, .inl (fun _ => 0))), (k3, .inl (cI, 14, .inl (fun _ => 0)))]) (rest := []) [.int 5, .int c1, .int v] ⟨hx, hb, hml, hown, hg⟩ (c_X3_put5 l D cI cZ cQ nw w y a u 1 0 c1 v) hd_X3_put k_352 k_349 k_350 k_351 k_45 ⟨Nat.le_of_ble_eq_true rfl, Nat.le_of_ble_eq_true rfl⟩ ⟨Nat.le_of_ble_eq_true rfl, Nat.le_of_ble_eq_true rfl⟩ hP hD hS hA hK [1] [0, 2, 3, 4, 5] rfl rfl (by decide) (by decide) (by decide) 0 rfl rfl rfl hl.1 rfl (Nat.le_of_ble_eq_true rfl) d_X8_act_7 (fun r_1 w_3 H locs hw_2 hP hD hS => ?_)
  obtain ⟨hr_6, lz_4, hz_5, rfl⟩ := hw_2
  subst hr_6
  have hP : va_P D vwCl [(x, .inr (6, [.ref tx, .ref nw, .ref sp, .ref ac, .ref cr, .ref sg, .ref sl, .ref fl, .null, .long 0])), (ac, .inr (0, [.ref k1, .ref k2, .ref k3, .int 0, .int 0])), (k1, .inl (cI, 14, .inl (fun _ => 0))), (k2, .inl (cI, 14, .inl (fun _ => 0))), (k3, .inl (cI, 14, .inl (fun _ => 0))), (nw, .inr (2, [.ref w, .ref y, .ref a, .ref u, .int 0, .int 0, .int 1, .int lz_4]))] H := hP
  have hD : va_D A [(x, .inr (6, [.ref tx, .ref nw, .ref sp, .ref ac, .ref cr, .ref sg, .ref sl, .ref fl, .null, .long 0])), (ac, .inr (0, [.ref k1, .ref k2, .ref k3, .int 0, .int 0])), (k1, .inl (cI, 14, .inl (fun _ => 0))), (k2, .inl (cI, 14, .inl (fun _ => 0))), (k3, .inl (cI, 14, .inl (fun _ => 0))), (nw, .inr (2, [.ref w, .ref y, .ref a, .ref u, .int 0, .int 0, .int 1, .int lz_4]))] := hD
  by_cases hc_7 : v < 0
  · skip
    refine cu_topi (y := (-2)) (by unfold cu_s2; rw [if_pos hc_7]) ?_
    refine lv_istore (lv' := [(4, .int (-2)), (0, .ref x), (1, .int 5), (2, .int c1), (3, .int v)]) hx hb d_X8_act_10 hl (by decide) rfl (fun ls hl => ?_)
    refine lv_iload hx hb d_X8_act_12 (lv_at hl 0 rfl) ?_
    refine lv_if_lt (tgt := 28) hx hb d_X8_act_14 (by decide) (fun _ => ?_) (fun c_8 => absurd (by decide +kernel) c_8)
    refine lv_iload hx hb d_X8_act_28 (lv_at hl 0 rfl) ?_
    exact hret _ _ _ _ [] _ _ _ (hP.sub (ws' := []) [] rfl) (hD.sub (ws' := []) [] (by decide) rfl) hS (Nat.le_of_ble_eq_true rfl) (Nat.le_of_ble_eq_true rfl) d_X8_act_30 (rfl) ⟨by unfold cu_s2; rw [if_pos hc_7], rfl⟩
  · skip
    by_cases hc_9 : 2 < v
    · skip
      refine cu_topi (y := (-2)) (by unfold cu_s2; rw [if_neg hc_7, if_pos hc_9]) ?_
      refine lv_istore (lv' := [(4, .int (-2)), (0, .ref x), (1, .int 5), (2, .int c1), (3, .int v)]) hx hb d_X8_act_10 hl (by decide) rfl (fun ls hl => ?_)
      refine lv_iload hx hb d_X8_act_12 (lv_at hl 0 rfl) ?_
      refine lv_if_lt (tgt := 28) hx hb d_X8_act_14 (by decide) (fun _ => ?_) (fun c_10 => absurd (by decide +kernel) c_10)
      refine lv_iload hx hb d_X8_act_28 (lv_at hl 0 rfl) ?_
      exact hret _ _ _ _ [] _ _ _ (hP.sub (ws' := []) [] rfl) (hD.sub (ws' := []) [] (by decide) rfl) hS (Nat.le_of_ble_eq_true rfl) (Nat.le_of_ble_eq_true rfl) d_X8_act_30 (rfl) ⟨by unfold cu_s2; rw [if_neg hc_7, if_pos hc_9], rfl⟩
    · skip
      refine cu_topi (y := 0) (by unfold cu_s2; rw [if_neg hc_7, if_neg hc_9]) ?_
      refine lv_istore (lv' := [(4, .int 0), (0, .ref x), (1, .int 5), (2, .int c1), (3, .int v)]) hx hb d_X8_act_10 hl (by decide) rfl (fun ls hl => ?_)
      refine lv_iload hx hb d_X8_act_12 (lv_at hl 0 rfl) ?_
      refine lv_if_lt (tgt := 28) hx hb d_X8_act_14 (by decide) (fun c_11 => absurd c_11 (by decide +kernel)) (fun _ => ?_)
      refine lv_aload_n hx hb d_X8_act_17 rfl (lv_at hl 1 rfl) ?_
      refine va_get (D := D) (ci := 6) (v := .ref ac) (C := RX8) (T := TX8) (N := 10) hx hb hg cu_iX8 hown hK.1 hP 0 rfl rfl 3 (by decide) (hg _ k_182) (fun _ h9 => h9) rfl d_X8_act_18 ?_
      refine lv_iload_n hx hb d_X8_act_21 rfl (lv_at hl 2 rfl) ?_
      refine lv_iload_n hx hb d_X8_act_22 rfl (lv_at hl 3 rfl) ?_
      refine lv_iload hx hb d_X8_act_23 (lv_at hl 0 rfl) ?_
      refine cu_VV (wc := [(ac, .inr (0, [.ref k1, .ref k2, .ref k3, .int 0, .int 0])), (k1, .inl (cI, 14, .inl (fun _ => 0))), (k2, .inl (cI, 14, .inl (fun _ => 0))), (k3, .inl (cI, 14, .inl (fun _ => 0)))]) (wr := [(x, .inr (6, [.ref tx, .ref nw, .ref sp, .ref ac, .ref cr, .ref sg, .ref sl, .ref fl, .null, .long 0])), (nw, .inr (2, [.ref w, .ref y, .ref a, .ref u, .int 0, .int 0, .int 1, .int lz_4]))]) (rest := []) [.int 5, .int c1, .int 0] ⟨hx, hb, hml, hown, hg⟩ (c_X0_add l D cI cZ cQ ac k1 k2 k3 5 c1 0) hd_X0_add k_359 k_356 k_357 k_358 k_46 ⟨Nat.le_of_ble_eq_true rfl, Nat.le_of_ble_eq_true rfl⟩ ⟨Nat.le_of_ble_eq_true rfl, Nat.le_of_ble_eq_true rfl⟩ hP hD hS hA hK [1, 2, 3, 4] [0, 5] rfl rfl (by decide) (by decide) (by decide) 0 rfl rfl rfl hl.1 rfl (Nat.le_of_ble_eq_true rfl) d_X8_act_25 (fun w_14 H locs hw_13 hP hD hS => ?_)
      subst hw_13
      have hP : va_P D vwCl [(x, .inr (6, [.ref tx, .ref nw, .ref sp, .ref ac, .ref cr, .ref sg, .ref sl, .ref fl, .null, .long 0])), (nw, .inr (2, [.ref w, .ref y, .ref a, .ref u, .int 0, .int 0, .int 1, .int lz_4]))] H := hP
      have hD : va_D A [(x, .inr (6, [.ref tx, .ref nw, .ref sp, .ref ac, .ref cr, .ref sg, .ref sl, .ref fl, .null, .long 0])), (nw, .inr (2, [.ref w, .ref y, .ref a, .ref u, .int 0, .int 0, .int 1, .int lz_4]))] := hD
      refine lv_iload hx hb d_X8_act_28 (lv_at hl 0 rfl) ?_
      exact hret _ _ _ _ [] _ _ _ (hP.sub (ws' := []) [] rfl) (hD.sub (ws' := []) [] (by decide) rfl) hS (Nat.le_of_ble_eq_true rfl) (Nat.le_of_ble_eq_true rfl) d_X8_act_30 (rfl) ⟨by unfold cu_s2; rw [if_neg hc_7, if_neg hc_9], rfl⟩
def cu_swr (c1 : Int32) : Int32 := if c1 < 0 then (-2) else if 255 < c1 then (-2) else 1
set_option maxHeartbeats 4000000 in
set_option maxRecDepth 100000 in
theorem c_X8_write (l : Launch) (D : va_G) (cI cZ cQ : ClassId) (x tx nw sp ac cr sg sl fl : Nat) (ts : Nat) (c1 : Int32) : cu_W l D (cu_TY cI cZ cQ) yX8_write cX8_write 2 .int 1 21 0 0 [.ref x, .int c1] [(x, .inr (6, [.ref tx, .ref nw, .ref sp, .ref ac, .ref cr, .ref sg, .ref sl, .ref fl, .null, .long 0])), (tx, .inr (5, [.ref ts, .int 0])), (ts, .inl (cI, 130, .inl (fun _ => 0)))] (fun r ww => (r = cu_swr c1) ∧ ww = []) := by
  refine cu_W.intro (by decide) (Nat.le_of_ble_eq_true rfl) ?_
  intro p e s m args below meth c Q ls A S hret hP hD hS hA hK hl
  obtain ⟨hx, hb, hml, hown, hg⟩ := S
  have hown : s.vm.findClass RX8 = some m.cls := hown
  have hl : lv_has ls 2 [(0, .ref x), (1, .int c1)] := hl
  refine lv_iload_n hx hb d_X8_write_0 rfl (lv_at hl 1 rfl) ?_
  refine lv_if_lt (tgt := 11) hx hb d_X8_write_1 (by decide) (fun c_1 => ?_) (fun c_1 => ?_)
  · skip
    refine lv_bipush (v := (-2)) hx hb d_X8_write_11 (by decide) ?_
    refine lv_goto (tgt := 24) hx hb d_X8_write_13 (by decide) ?_
    exact hret _ _ _ _ [] _ _ _ (hP.sub (ws' := []) [] rfl) (hD.sub (ws' := []) [] (by decide) rfl) hS (Nat.le_of_ble_eq_true rfl) (Nat.le_of_ble_eq_true rfl) d_X8_write_24 (rfl) ⟨by unfold cu_swr; rw [if_pos c_1], rfl⟩
  · skip
    refine lv_iload_n hx hb d_X8_write_4 rfl (lv_at hl 1 rfl) ?_
    refine lv_sipush (v := 255) hx hb d_X8_write_5 (by decide) ?_
    refine lv_icmp_le (tgt := 16) hx hb d_X8_write_8 (by decide) (fun c_2 => ?_) (fun c_2 => ?_)
    · skip
      refine lv_aload_n hx hb d_X8_write_16 rfl (lv_at hl 0 rfl) ?_
      refine va_get (D := D) (ci := 6) (v := .ref tx) (C := RX8) (T := TX8) (N := 10) hx hb hg cu_iX8 hown hK.1 hP 0 rfl rfl 0 (by decide) (hg _ k_179) (fun _ h9 => h9) rfl d_X8_write_17 ?_
      refine lv_iload_n hx hb d_X8_write_20 rfl (lv_at hl 1 rfl) ?_
      refine cu_VW (wc := [(tx, .inr (5, [.ref ts, .int 0])), (ts, .inl (cI, 130, .inl (fun _ => 0)))]) (wr := [(x, .inr (6, [.ref tx, .ref nw, .ref sp, .ref ac, .ref cr, .ref sg, .ref sl, .ref fl, .null, .long 0]))]) (rest := []) [.int c1] ⟨hx, hb, hml, hown, hg⟩ (c_X7_append l D cI cZ cQ tx ts c1) hd_X7_append k_217 k_214 k_215 k_216 k_44 ⟨Nat.le_of_ble_eq_true rfl, Nat.le_of_ble_eq_true rfl⟩ ⟨Nat.le_of_ble_eq_true rfl, Nat.le_of_ble_eq_true rfl⟩ hP hD hS hA hK [1, 2] [0] rfl rfl (by decide) (by decide) (by decide) 0 rfl rfl rfl hl.1 rfl (Nat.le_of_ble_eq_true rfl) d_X8_write_21 (fun r_3 w_5 H locs hw_4 hP hD hS => ?_)
      obtain ⟨hr_6, rfl⟩ := hw_4
      subst hr_6
      have hP : va_P D vwCl [(x, .inr (6, [.ref tx, .ref nw, .ref sp, .ref ac, .ref cr, .ref sg, .ref sl, .ref fl, .null, .long 0]))] H := hP
      have hD : va_D A [(x, .inr (6, [.ref tx, .ref nw, .ref sp, .ref ac, .ref cr, .ref sg, .ref sl, .ref fl, .null, .long 0]))] := hD
      exact hret _ _ _ _ [] _ _ _ (hP.sub (ws' := []) [] rfl) (hD.sub (ws' := []) [] (by decide) rfl) hS (Nat.le_of_ble_eq_true rfl) (Nat.le_of_ble_eq_true rfl) d_X8_write_24 (rfl) ⟨by unfold cu_swr; rw [if_neg c_1, if_neg (Int32.not_lt.mpr c_2)], rfl⟩
    · skip
      refine lv_bipush (v := (-2)) hx hb d_X8_write_11 (by decide) ?_
      refine lv_goto (tgt := 24) hx hb d_X8_write_13 (by decide) ?_
      exact hret _ _ _ _ [] _ _ _ (hP.sub (ws' := []) [] rfl) (hD.sub (ws' := []) [] (by decide) rfl) hS (Nat.le_of_ble_eq_true rfl) (Nat.le_of_ble_eq_true rfl) d_X8_write_24 (rfl) ⟨by unfold cu_swr; rw [if_neg c_1, if_pos (Int32.not_le.mp c_2)], rfl⟩
set_option maxHeartbeats 4000000 in
set_option maxRecDepth 100000 in
theorem c_X8_wipe (l : Launch) (D : va_G) (cI cZ cQ : ClassId) (x tx nw sp ac cr sg sl fl : Nat) (ts : Nat) : cu_W l D (cu_TY cI cZ cQ) yX8_wipe cX8_wipe 2 .int 0 0 0 0 [.ref x] [(x, .inr (6, [.ref tx, .ref nw, .ref sp, .ref ac, .ref cr, .ref sg, .ref sl, .ref fl, .null, .long 0])), (tx, .inr (5, [.ref ts, .int 0]))] (fun r ww => (r = 0) ∧ ww = []) := by
  refine cu_W.intro (by decide) (Nat.le_of_ble_eq_true rfl) ?_
  intro p e s m args below meth c Q ls A S hret hP hD hS hA hK hl
  obtain ⟨hx, hb, hml, hown, hg⟩ := S
  have hown : s.vm.findClass RX8 = some m.cls := hown
  have hl : lv_has ls 2 [(0, .ref x)] := hl
  refine lv_aload_n hx hb d_X8_wipe_0 rfl (lv_at hl 0 rfl) ?_
  refine va_get (D := D) (ci := 6) (v := .ref tx) (C := RX8) (T := TX8) (N := 10) hx hb hg cu_iX8 hown hK.1 hP 0 rfl rfl 0 (by decide) (hg _ k_179) (fun _ h9 => h9) rfl d_X8_wipe_1 ?_
  refine va_get (D := D) (ci := 5) (v := .int 0) (C := RX7) (T := TX7) (N := 2) hx hb hg cu_iX7 hown hK.1 hP 1 rfl rfl 1 (by decide) (hg _ k_71) (fun _ h9 => h9) rfl d_X8_wipe_4 ?_
  refine lv_istore_n (lv' := [(1, .int 0), (0, .ref x)]) hx hb d_X8_wipe_7 rfl hl (by decide) rfl (fun ls hl => ?_)
  refine lv_aload_n hx hb d_X8_wipe_8 rfl (lv_at hl 1 rfl) ?_
  refine va_get (D := D) (ci := 6) (v := .ref tx) (C := RX8) (T := TX8) (N := 10) hx hb hg cu_iX8 hown hK.1 hP 0 rfl rfl 0 (by decide) (hg _ k_179) (fun _ h9 => h9) rfl d_X8_wipe_9 ?_
  refine lv_iconst (v := 0) hx hb d_X8_wipe_12 (by decide) ?_
  refine va_put (D := D) (ci := 5) (v := .int 0) (ty := .int) (C := RX7) (T := TX7) (N := 2) hx hb hg cu_iX7 tyX7 tyX7_ok nmX7 hown hK.1 hP hD hS 1 rfl rfl 1 (by decide) (hg _ k_71) (fun _ h9 => h9) rfl (by decide +kernel) rfl rfl (Nat.le_of_ble_eq_true rfl) d_X8_wipe_13 (fun H locs hP hD hS => ?_)
  have hP : va_P D vwCl [(x, .inr (6, [.ref tx, .ref nw, .ref sp, .ref ac, .ref cr, .ref sg, .ref sl, .ref fl, .null, .long 0])), (tx, .inr (5, [.ref ts, .int 0]))] H := hP
  have hD : va_D A [(x, .inr (6, [.ref tx, .ref nw, .ref sp, .ref ac, .ref cr, .ref sg, .ref sl, .ref fl, .null, .long 0])), (tx, .inr (5, [.ref ts, .int 0]))] := hD
  refine lv_iload_n hx hb d_X8_wipe_16 rfl (lv_at hl 0 rfl) ?_
  exact hret _ _ _ _ [] _ _ _ (hP.sub (ws' := []) [] rfl) (hD.sub (ws' := []) [] (by decide) rfl) hS (Nat.le_of_ble_eq_true rfl) (Nat.le_of_ble_eq_true rfl) d_X8_wipe_17 (rfl) ⟨rfl, rfl⟩
set_option maxHeartbeats 4000000 in
set_option maxRecDepth 100000 in
theorem c_X8_fault (l : Launch) (D : va_G) (cI cZ cQ : ClassId) (x tx nw sp ac cr sg sl fl : Nat) (ts : Nat) : cu_R l D (cu_TY cI cZ cQ) yX8_fault cX8_fault 1 .int 2 44 [.ref x] [(x, .inr (6, [.ref tx, .ref nw, .ref sp, .ref ac, .ref cr, .ref sg, .ref sl, .ref fl, .null, .long 0])), (tx, .inr (5, [.ref ts, .int 0]))] (fun r => r = 0) := by
  refine cu_R.intro (by decide) (Nat.le_of_ble_eq_true rfl) ?_
  intro p e s m args below meth c Q ls S hret hP hK hl
  obtain ⟨hx, hb, hml, hown, hg⟩ := S
  have hown : s.vm.findClass RX8 = some m.cls := hown
  have hl : lv_has ls 1 [(0, .ref x)] := hl
  refine lv_aload_n hx hb d_X8_fault_0 rfl (lv_at hl 0 rfl) ?_
  refine va_get (D := D) (ci := 6) (v := .ref tx) (C := RX8) (T := TX8) (N := 10) hx hb hg cu_iX8 hown hK.1 hP 0 rfl rfl 0 (by decide) (hg _ k_179) (fun _ h9 => h9) rfl d_X8_fault_1 ?_
  refine lv_aload_n hx hb d_X8_fault_4 rfl (lv_at hl 0 rfl) ?_
  refine va_get (D := D) (ci := 6) (v := .ref sp) (C := RX8) (T := TX8) (N := 10) hx hb hg cu_iX8 hown hK.1 hP 0 rfl rfl 2 (by decide) (hg _ k_181) (fun _ h9 => h9) rfl d_X8_fault_5 ?_
  refine cu_VR (wc := [(tx, .inr (5, [.ref ts, .int 0]))]) (rest := []) [.ref sp] ⟨hx, hb, hml, hown, hg⟩ (c_X7_readInto l D cI cZ cQ tx ts sp) hd_X7_readInto k_229 k_226 k_227 k_228 k_44 ⟨Nat.le_of_ble_eq_true rfl, Nat.le_of_ble_eq_true rfl⟩ ⟨Nat.le_of_ble_eq_true rfl, Nat.le_of_ble_eq_true rfl⟩ hP hK [1] rfl 0 rfl rfl rfl hl.1 rfl (Nat.le_of_ble_eq_true rfl) d_X8_fault_8 (fun r_1 hr_2 => ?_)
  subst hr_2
  exact hret _ _ _ d_X8_fault_11 (rfl) (rfl)
set_option maxHeartbeats 4000000 in
set_option maxRecDepth 100000 in
theorem c_X8_hoard (l : Launch) (D : va_G) (cI cZ cQ : ClassId) (x tx nw sp ac cr sg sl fl : Nat) (ts : Nat) : cu_R l D (cu_TY cI cZ cQ) yX8_hoard cX8_hoard 2 .int 2 44 [.ref x] [(x, .inr (6, [.ref tx, .ref nw, .ref sp, .ref ac, .ref cr, .ref sg, .ref sl, .ref fl, .null, .long 0])), (tx, .inr (5, [.ref ts, .int 0]))] (fun r => r = (-3)) := by
  refine cu_R.intro (by decide) (Nat.le_of_ble_eq_true rfl) ?_
  intro p e s m args below meth c Q ls S hret hP hK hl
  obtain ⟨hx, hb, hml, hown, hg⟩ := S
  have hown : s.vm.findClass RX8 = some m.cls := hown
  have hl : lv_has ls 2 [(0, .ref x)] := hl
  refine lv_aload_n hx hb d_X8_hoard_0 rfl (lv_at hl 0 rfl) ?_
  refine va_get (D := D) (ci := 6) (v := .ref tx) (C := RX8) (T := TX8) (N := 10) hx hb hg cu_iX8 hown hK.1 hP 0 rfl rfl 0 (by decide) (hg _ k_179) (fun _ h9 => h9) rfl d_X8_hoard_1 ?_
  refine lv_aload_n hx hb d_X8_hoard_4 rfl (lv_at hl 0 rfl) ?_
  refine va_get (D := D) (ci := 6) (v := .ref sp) (C := RX8) (T := TX8) (N := 10) hx hb hg cu_iX8 hown hK.1 hP 0 rfl rfl 2 (by decide) (hg _ k_181) (fun _ h9 => h9) rfl d_X8_hoard_5 ?_
  refine cu_VR (wc := [(tx, .inr (5, [.ref ts, .int 0]))]) (rest := []) [.ref sp] ⟨hx, hb, hml, hown, hg⟩ (c_X7_readInto l D cI cZ cQ tx ts sp) hd_X7_readInto k_229 k_226 k_227 k_228 k_44 ⟨Nat.le_of_ble_eq_true rfl, Nat.le_of_ble_eq_true rfl⟩ ⟨Nat.le_of_ble_eq_true rfl, Nat.le_of_ble_eq_true rfl⟩ hP hK [1] rfl 0 rfl rfl rfl hl.1 rfl (Nat.le_of_ble_eq_true rfl) d_X8_hoard_8 (fun r_1 hr_2 => ?_)
  subst hr_2
  refine lv_bipush (v := (-9)) hx hb d_X8_hoard_11 (by decide) ?_
  refine lv_icmp_eq (tgt := 19) hx hb d_X8_hoard_13 (by decide) (fun c_3 => absurd c_3 (by decide +kernel)) (fun _ => ?_)
  refine lv_bipush (v := (-3)) hx hb d_X8_hoard_16 (by decide) ?_
  exact hret _ _ _ d_X8_hoard_18 (rfl) (rfl)
set_option maxHeartbeats 4000000 in
set_option maxRecDepth 100000 in
theorem c_X8_coin (l : Launch) (D : va_G) (cI cZ cQ : ClassId) (x tx nw sp ac cr sg sl fl : Nat) (w y a u : Nat) (c1 c2 : Int32) : cu_R l D (cu_TY cI cZ cQ) yX8_coin cX8_coin 3 .int 1 21 [.ref x, .int c1, .int c2] [(x, .inr (6, [.ref tx, .ref nw, .ref sp, .ref ac, .ref cr, .ref sg, .ref sl, .ref fl, .null, .long 0])), (nw, .inr (2, [.ref w, .ref y, .ref a, .ref u, .int 0, .int 0, .int 1, .int 0]))] (fun r => r = (-1)) := by
  refine cu_R.intro (by decide) (Nat.le_of_ble_eq_true rfl) ?_
  intro p e s m args below meth c Q ls S hret hP hK hl
  obtain ⟨hx, hb, hml, hown, hg⟩ := S
  have hown : s.vm.findClass RX8 = some m.cls := hown
  have hl : lv_has ls 3 [(0, .ref x), (1, .int c1), (2, .int c2)] := hl
  refine lv_aload_n hx hb d_X8_coin_0 rfl (lv_at hl 0 rfl) ?_
  refine va_get (D := D) (ci := 6) (v := .ref nw) (C := RX8) (T := TX8) (N := 10) hx hb hg cu_iX8 hown hK.1 hP 0 rfl rfl 1 (by decide) (hg _ k_180) (fun _ h9 => h9) rfl d_X8_coin_1 ?_
  refine lv_iload_n hx hb d_X8_coin_4 rfl (lv_at hl 1 rfl) ?_
  refine cu_VR (wc := [(nw, .inr (2, [.ref w, .ref y, .ref a, .ref u, .int 0, .int 0, .int 1, .int 0]))]) (rest := []) [.int c1] ⟨hx, hb, hml, hown, hg⟩ (c_X3_hasCoin l D cI cZ cQ nw w y a u 1 0 c1) hd_X3_hasCoin k_281 k_278 k_279 k_280 k_45 ⟨Nat.le_of_ble_eq_true rfl, Nat.le_of_ble_eq_true rfl⟩ ⟨Nat.le_of_ble_eq_true rfl, Nat.le_of_ble_eq_true rfl⟩ hP hK [1] rfl 0 rfl rfl rfl hl.1 rfl (Nat.le_of_ble_eq_true rfl) d_X8_coin_5 (fun r_1 hr_2 => ?_)
  subst hr_2
  refine lv_if_ne (tgt := 13) hx hb d_X8_coin_8 (by decide) (fun c_3 => absurd (by decide +kernel) c_3) (fun _ => ?_)
  refine lv_iconst (v := (-1)) hx hb d_X8_coin_11 (by decide) ?_
  exact hret _ _ _ d_X8_coin_12 (rfl) (rfl)
set_option maxHeartbeats 4000000 in
set_option maxRecDepth 100000 in
theorem c_X8_mint (l : Launch) (D : va_G) (cI cZ cQ : ClassId) (x tx nw sp ac cr sg sl fl : Nat) (w y a u : Nat) (c1 c2 : Int32) : cu_R l D (cu_TY cI cZ cQ) yX8_mint cX8_mint 3 .int 1 21 [.ref x, .int c1, .int c2] [(x, .inr (6, [.ref tx, .ref nw, .ref sp, .ref ac, .ref cr, .ref sg, .ref sl, .ref fl, .null, .long 0])), (nw, .inr (2, [.ref w, .ref y, .ref a, .ref u, .int 0, .int 0, .int 1, .int 0]))] (fun r => r = (-1)) := by
  refine cu_R.intro (by decide) (Nat.le_of_ble_eq_true rfl) ?_
  intro p e s m args below meth c Q ls S hret hP hK hl
  obtain ⟨hx, hb, hml, hown, hg⟩ := S
  have hown : s.vm.findClass RX8 = some m.cls := hown
  have hl : lv_has ls 3 [(0, .ref x), (1, .int c1), (2, .int c2)] := hl
  refine lv_aload_n hx hb d_X8_mint_0 rfl (lv_at hl 0 rfl) ?_
  refine va_get (D := D) (ci := 6) (v := .ref nw) (C := RX8) (T := TX8) (N := 10) hx hb hg cu_iX8 hown hK.1 hP 0 rfl rfl 1 (by decide) (hg _ k_180) (fun _ h9 => h9) rfl d_X8_mint_1 ?_
  refine lv_iload_n hx hb d_X8_mint_4 rfl (lv_at hl 1 rfl) ?_
  refine cu_VR (wc := [(nw, .inr (2, [.ref w, .ref y, .ref a, .ref u, .int 0, .int 0, .int 1, .int 0]))]) (rest := []) [.int c1] ⟨hx, hb, hml, hown, hg⟩ (c_X3_hasMint l D cI cZ cQ nw w y a u 1 0 c1) hd_X3_hasMint k_321 k_318 k_319 k_320 k_45 ⟨Nat.le_of_ble_eq_true rfl, Nat.le_of_ble_eq_true rfl⟩ ⟨Nat.le_of_ble_eq_true rfl, Nat.le_of_ble_eq_true rfl⟩ hP hK [1] rfl 0 rfl rfl rfl hl.1 rfl (Nat.le_of_ble_eq_true rfl) d_X8_mint_5 (fun r_1 hr_2 => ?_)
  subst hr_2
  refine lv_if_ne (tgt := 13) hx hb d_X8_mint_8 (by decide) (fun c_3 => absurd (by decide +kernel) c_3) (fun _ => ?_)
  refine lv_iconst (v := (-1)) hx hb d_X8_mint_11 (by decide) ?_
  exact hret _ _ _ d_X8_mint_12 (rfl) (rfl)
set_option maxHeartbeats 4000000 in
set_option maxRecDepth 100000 in
theorem c_X8_clean (l : Launch) (D : va_G) (cI cZ cQ : ClassId) (x tx nw sp ac cr sg sl fl : Nat) (w y a u : Nat) (c1 c2 : Int32) : cu_R l D (cu_TY cI cZ cQ) yX8_clean cX8_clean 3 .int 3 74 [.ref x, .int c1, .int c2] [(x, .inr (6, [.ref tx, .ref nw, .ref sp, .ref ac, .ref cr, .ref sg, .ref sl, .ref fl, .null, .long 0])), (nw, .inr (2, [.ref w, .ref y, .ref a, .ref u, .int 0, .int 0, .int 1, .int 0]))] (fun r => r = (-1)) := by
  refine cu_R.intro (by decide) (Nat.le_of_ble_eq_true rfl) ?_
  intro p e s m args below meth c Q ls S hret hP hK hl
  obtain ⟨hx, hb, hml, hown, hg⟩ := S
  have hown : s.vm.findClass RX8 = some m.cls := hown
  have hl : lv_has ls 3 [(0, .ref x), (1, .int c1), (2, .int c2)] := hl
  refine lv_aload_n hx hb d_X8_clean_0 rfl (lv_at hl 0 rfl) ?_
  refine lv_iconst (v := 0) hx hb d_X8_clean_1 (by decide) ?_
  refine lv_iload_n hx hb d_X8_clean_2 rfl (lv_at hl 1 rfl) ?_
  refine lv_iload_n hx hb d_X8_clean_3 rfl (lv_at hl 2 rfl) ?_
  refine cu_VR (wc := [(x, .inr (6, [.ref tx, .ref nw, .ref sp, .ref ac, .ref cr, .ref sg, .ref sl, .ref fl, .null, .long 0])), (nw, .inr (2, [.ref w, .ref y, .ref a, .ref u, .int 0, .int 0, .int 1, .int 0]))]) (rest := []) [.int 0, .int c1, .int c2] ⟨hx, hb, hml, hown, hg⟩ (c_X8_act0 l D cI cZ cQ x tx nw sp ac cr sg sl fl w y a u c1 c2) hd_X8_act k_348 k_345 k_347 k_6 k_43 ⟨Nat.le_of_ble_eq_true rfl, Nat.le_of_ble_eq_true rfl⟩ ⟨Nat.le_of_ble_eq_true rfl, Nat.le_of_ble_eq_true rfl⟩ hP hK [0, 1] rfl 0 rfl rfl rfl hl.1 rfl (Nat.le_of_ble_eq_true rfl) d_X8_clean_4 (fun r_1 hr_2 => ?_)
  subst hr_2
  exact hret _ _ _ d_X8_clean_7 (rfl) (rfl)
set_option maxHeartbeats 4000000 in
set_option maxRecDepth 100000 in
theorem c_X8_date (l : Launch) (D : va_G) (cI cZ cQ : ClassId) (x tx nw sp ac cr sg sl fl : Nat) (w y a u : Nat) (c1 c2 : Int32) : cu_R l D (cu_TY cI cZ cQ) yX8_date cX8_date 3 .int 3 74 [.ref x, .int c1, .int c2] [(x, .inr (6, [.ref tx, .ref nw, .ref sp, .ref ac, .ref cr, .ref sg, .ref sl, .ref fl, .null, .long 0])), (nw, .inr (2, [.ref w, .ref y, .ref a, .ref u, .int 0, .int 0, .int 1, .int 0]))] (fun r => r = (-1)) := by
  refine cu_R.intro (by decide) (Nat.le_of_ble_eq_true rfl) ?_
  intro p e s m args below meth c Q ls S hret hP hK hl
  obtain ⟨hx, hb, hml, hown, hg⟩ := S
  have hown : s.vm.findClass RX8 = some m.cls := hown
  have hl : lv_has ls 3 [(0, .ref x), (1, .int c1), (2, .int c2)] := hl
  refine lv_aload_n hx hb d_X8_date_0 rfl (lv_at hl 0 rfl) ?_
  refine lv_iconst (v := 1) hx hb d_X8_date_1 (by decide) ?_
  refine lv_iload_n hx hb d_X8_date_2 rfl (lv_at hl 1 rfl) ?_
  refine lv_iload_n hx hb d_X8_date_3 rfl (lv_at hl 2 rfl) ?_
  refine cu_VR (wc := [(x, .inr (6, [.ref tx, .ref nw, .ref sp, .ref ac, .ref cr, .ref sg, .ref sl, .ref fl, .null, .long 0])), (nw, .inr (2, [.ref w, .ref y, .ref a, .ref u, .int 0, .int 0, .int 1, .int 0]))]) (rest := []) [.int 1, .int c1, .int c2] ⟨hx, hb, hml, hown, hg⟩ (c_X8_act1 l D cI cZ cQ x tx nw sp ac cr sg sl fl w y a u c1 c2) hd_X8_act k_348 k_345 k_347 k_6 k_43 ⟨Nat.le_of_ble_eq_true rfl, Nat.le_of_ble_eq_true rfl⟩ ⟨Nat.le_of_ble_eq_true rfl, Nat.le_of_ble_eq_true rfl⟩ hP hK [0, 1] rfl 0 rfl rfl rfl hl.1 rfl (Nat.le_of_ble_eq_true rfl) d_X8_date_4 (fun r_1 hr_2 => ?_)
  subst hr_2
  exact hret _ _ _ d_X8_date_7 (rfl) (rfl)
set_option maxHeartbeats 4000000 in
set_option maxRecDepth 100000 in
theorem c_X8_strike (l : Launch) (D : va_G) (cI cZ cQ : ClassId) (x tx nw sp ac cr sg sl fl : Nat) (w y a u : Nat) (c1 c2 : Int32) : cu_R l D (cu_TY cI cZ cQ) yX8_strike cX8_strike 3 .int 3 74 [.ref x, .int c1, .int c2] [(x, .inr (6, [.ref tx, .ref nw, .ref sp, .ref ac, .ref cr, .ref sg, .ref sl, .ref fl, .null, .long 0])), (nw, .inr (2, [.ref w, .ref y, .ref a, .ref u, .int 0, .int 0, .int 1, .int 0]))] (fun r => r = (-1)) := by
  refine cu_R.intro (by decide) (Nat.le_of_ble_eq_true rfl) ?_
  intro p e s m args below meth c Q ls S hret hP hK hl
  obtain ⟨hx, hb, hml, hown, hg⟩ := S
  have hown : s.vm.findClass RX8 = some m.cls := hown
  have hl : lv_has ls 3 [(0, .ref x), (1, .int c1), (2, .int c2)] := hl
  refine lv_aload_n hx hb d_X8_strike_0 rfl (lv_at hl 0 rfl) ?_
  refine lv_iconst (v := 3) hx hb d_X8_strike_1 (by decide) ?_
  refine lv_iload_n hx hb d_X8_strike_2 rfl (lv_at hl 1 rfl) ?_
  refine lv_iload_n hx hb d_X8_strike_3 rfl (lv_at hl 2 rfl) ?_
  refine cu_VR (wc := [(x, .inr (6, [.ref tx, .ref nw, .ref sp, .ref ac, .ref cr, .ref sg, .ref sl, .ref fl, .null, .long 0])), (nw, .inr (2, [.ref w, .ref y, .ref a, .ref u, .int 0, .int 0, .int 1, .int 0]))]) (rest := []) [.int 3, .int c1, .int c2] ⟨hx, hb, hml, hown, hg⟩ (c_X8_act3 l D cI cZ cQ x tx nw sp ac cr sg sl fl w y a u c1 c2) hd_X8_act k_348 k_345 k_347 k_6 k_43 ⟨Nat.le_of_ble_eq_true rfl, Nat.le_of_ble_eq_true rfl⟩ ⟨Nat.le_of_ble_eq_true rfl, Nat.le_of_ble_eq_true rfl⟩ hP hK [0, 1] rfl 0 rfl rfl rfl hl.1 rfl (Nat.le_of_ble_eq_true rfl) d_X8_strike_4 (fun r_1 hr_2 => ?_)
  subst hr_2
  exact hret _ _ _ d_X8_strike_7 (rfl) (rfl)
set_option maxHeartbeats 4000000 in
set_option maxRecDepth 100000 in
theorem c_X8_aside (l : Launch) (D : va_G) (cI cZ cQ : ClassId) (x tx nw sp ac cr sg sl fl : Nat) (w y a u : Nat) (c1 : Int32) : cu_R l D (cu_TY cI cZ cQ) yX8_aside cX8_aside 2 .int 1 21 [.ref x, .int c1] [(x, .inr (6, [.ref tx, .ref nw, .ref sp, .ref ac, .ref cr, .ref sg, .ref sl, .ref fl, .null, .long 0])), (nw, .inr (2, [.ref w, .ref y, .ref a, .ref u, .int 0, .int 0, .int 1, .int 0]))] (fun r => r = (-1)) := by
  refine cu_R.intro (by decide) (Nat.le_of_ble_eq_true rfl) ?_
  intro p e s m args below meth c Q ls S hret hP hK hl
  obtain ⟨hx, hb, hml, hown, hg⟩ := S
  have hown : s.vm.findClass RX8 = some m.cls := hown
  have hl : lv_has ls 2 [(0, .ref x), (1, .int c1)] := hl
  refine lv_aload_n hx hb d_X8_aside_0 rfl (lv_at hl 0 rfl) ?_
  refine va_get (D := D) (ci := 6) (v := .ref nw) (C := RX8) (T := TX8) (N := 10) hx hb hg cu_iX8 hown hK.1 hP 0 rfl rfl 1 (by decide) (hg _ k_180) (fun _ h9 => h9) rfl d_X8_aside_1 ?_
  refine lv_iload_n hx hb d_X8_aside_4 rfl (lv_at hl 1 rfl) ?_
  refine cu_VR (wc := [(nw, .inr (2, [.ref w, .ref y, .ref a, .ref u, .int 0, .int 0, .int 1, .int 0]))]) (rest := []) [.int c1] ⟨hx, hb, hml, hown, hg⟩ (c_X3_hasCoin l D cI cZ cQ nw w y a u 1 0 c1) hd_X3_hasCoin k_281 k_278 k_279 k_280 k_45 ⟨Nat.le_of_ble_eq_true rfl, Nat.le_of_ble_eq_true rfl⟩ ⟨Nat.le_of_ble_eq_true rfl, Nat.le_of_ble_eq_true rfl⟩ hP hK [1] rfl 0 rfl rfl rfl hl.1 rfl (Nat.le_of_ble_eq_true rfl) d_X8_aside_5 (fun r_1 hr_2 => ?_)
  subst hr_2
  refine lv_if_ne (tgt := 13) hx hb d_X8_aside_8 (by decide) (fun c_3 => absurd (by decide +kernel) c_3) (fun _ => ?_)
  refine lv_iconst (v := (-1)) hx hb d_X8_aside_11 (by decide) ?_
  exact hret _ _ _ d_X8_aside_12 (rfl) (rfl)
set_option maxHeartbeats 4000000 in
set_option maxRecDepth 100000 in
theorem c_X8_setRate (l : Launch) (D : va_G) (cI cZ cQ : ClassId) (x tx nw sp ac cr sg sl fl : Nat) (w y a u : Nat) (k1 k2 k3 : Nat) (v : Int32) : cu_W l D (cu_TY cI cZ cQ) yX8_setRate cX8_setRate 2 .int 3 61 0 0 [.ref x, .int v] [(x, .inr (6, [.ref tx, .ref nw, .ref sp, .ref ac, .ref cr, .ref sg, .ref sl, .ref fl, .null, .long 0])), (nw, .inr (2, [.ref w, .ref y, .ref a, .ref u, .int 0, .int 0, .int 1, .int 0])), (ac, .inr (0, [.ref k1, .ref k2, .ref k3, .int 0, .int 0])), (k1, .inl (cI, 14, .inl (fun _ => 0))), (k2, .inl (cI, 14, .inl (fun _ => 0))), (k3, .inl (cI, 14, .inl (fun _ => 0)))] (fun r ww => (r = cu_s9 v) ∧ ww = []) := by
  refine cu_W.intro (by decide) (Nat.le_of_ble_eq_true rfl) ?_
  intro p e s m args below meth c Q ls A S hret hP hD hS hA hK hl
  obtain ⟨hx, hb, hml, hown, hg⟩ := S
  have hown : s.vm.findClass RX8 = some m.cls := hown
  have hl : lv_has ls 2 [(0, .ref x), (1, .int v)] := hl
  refine lv_aload_n hx hb d_X8_setRate_0 rfl (lv_at hl 0 rfl) ?_
  refine lv_iconst (v := 4) hx hb d_X8_setRate_1 (by decide) ?_
  refine lv_iconst (v := 0) hx hb d_X8_setRate_2 (by decide) ?_
  refine lv_iload_n hx hb d_X8_setRate_3 rfl (lv_at hl 1 rfl) ?_
  refine cu_VW (wc := [(x, .inr (6, [.ref tx, .ref nw, .ref sp, .ref ac, .ref cr, .ref sg, .ref sl, .ref fl, .null, .long 0])), (nw, .inr (2, [.ref w, .ref y, .ref a, .ref u, .int 0, .int 0, .int 1, .int 0])), (ac, .inr (0, [.ref k1, .ref k2, .ref k3, .int 0, .int 0])), (k1, .inl (cI, 14, .inl (fun _ => 0))), (k2, .inl (cI, 14, .inl (fun _ => 0))), (k3, .inl (cI, 14, .inl (fun _ => 0)))]) (wr := []) (rest := []) [.int 4, .int 0, .int v] ⟨hx, hb, hml, hown, hg⟩ (c_X8_act4 l D cI cZ cQ x tx nw sp ac cr sg sl fl w y a u k1 k2 k3 0 v) hd_X8_act k_348 k_345 k_347 k_6 k_43 ⟨Nat.le_of_ble_eq_true rfl, Nat.le_of_ble_eq_true rfl⟩ ⟨Nat.le_of_ble_eq_true rfl, Nat.le_of_ble_eq_true rfl⟩ hP hD hS hA hK [0, 1, 2, 3, 4, 5] [] rfl rfl (by decide) (by decide) (by decide) 0 rfl rfl rfl hl.1 rfl (Nat.le_of_ble_eq_true rfl) d_X8_setRate_4 (fun r_1 w_3 H locs hw_2 hP hD hS => ?_)
  obtain ⟨hr_4, rfl⟩ := hw_2
  subst hr_4
  have hP : va_P D vwCl [] H := hP
  have hD : va_D A [] := hD
  exact hret _ _ _ _ [] _ _ _ (hP.sub (ws' := []) [] rfl) (hD.sub (ws' := []) [] (by decide) rfl) hS (Nat.le_of_ble_eq_true rfl) (Nat.le_of_ble_eq_true rfl) d_X8_setRate_7 (rfl) ⟨rfl, rfl⟩
set_option maxHeartbeats 4000000 in
set_option maxRecDepth 100000 in
theorem c_X8_setLaw (l : Launch) (D : va_G) (cI cZ cQ : ClassId) (x tx nw sp ac cr sg sl fl : Nat) (w y a u : Nat) (k1 k2 k3 : Nat) (v : Int32) : cu_W l D (cu_TY cI cZ cQ) yX8_setLaw cX8_setLaw 2 .int 3 61 0 0 [.ref x, .int v] [(x, .inr (6, [.ref tx, .ref nw, .ref sp, .ref ac, .ref cr, .ref sg, .ref sl, .ref fl, .null, .long 0])), (nw, .inr (2, [.ref w, .ref y, .ref a, .ref u, .int 0, .int 0, .int 1, .int 0])), (ac, .inr (0, [.ref k1, .ref k2, .ref k3, .int 0, .int 0])), (k1, .inl (cI, 14, .inl (fun _ => 0))), (k2, .inl (cI, 14, .inl (fun _ => 0))), (k3, .inl (cI, 14, .inl (fun _ => 0)))] (fun r ww => (r = cu_s2 v 0) ∧ ww = []) := by
  refine cu_W.intro (by decide) (Nat.le_of_ble_eq_true rfl) ?_
  intro p e s m args below meth c Q ls A S hret hP hD hS hA hK hl
  obtain ⟨hx, hb, hml, hown, hg⟩ := S
  have hown : s.vm.findClass RX8 = some m.cls := hown
  have hl : lv_has ls 2 [(0, .ref x), (1, .int v)] := hl
  refine lv_aload_n hx hb d_X8_setLaw_0 rfl (lv_at hl 0 rfl) ?_
  refine lv_iconst (v := 5) hx hb d_X8_setLaw_1 (by decide) ?_
  refine lv_iconst (v := 0) hx hb d_X8_setLaw_2 (by decide) ?_
  refine lv_iload_n hx hb d_X8_setLaw_3 rfl (lv_at hl 1 rfl) ?_
  refine cu_VW (wc := [(x, .inr (6, [.ref tx, .ref nw, .ref sp, .ref ac, .ref cr, .ref sg, .ref sl, .ref fl, .null, .long 0])), (nw, .inr (2, [.ref w, .ref y, .ref a, .ref u, .int 0, .int 0, .int 1, .int 0])), (ac, .inr (0, [.ref k1, .ref k2, .ref k3, .int 0, .int 0])), (k1, .inl (cI, 14, .inl (fun _ => 0))), (k2, .inl (cI, 14, .inl (fun _ => 0))), (k3, .inl (cI, 14, .inl (fun _ => 0)))]) (wr := []) (rest := []) [.int 5, .int 0, .int v] ⟨hx, hb, hml, hown, hg⟩ (c_X8_act5 l D cI cZ cQ x tx nw sp ac cr sg sl fl w y a u k1 k2 k3 0 v) hd_X8_act k_348 k_345 k_347 k_6 k_43 ⟨Nat.le_of_ble_eq_true rfl, Nat.le_of_ble_eq_true rfl⟩ ⟨Nat.le_of_ble_eq_true rfl, Nat.le_of_ble_eq_true rfl⟩ hP hD hS hA hK [0, 1, 2, 3, 4, 5] [] rfl rfl (by decide) (by decide) (by decide) 0 rfl rfl rfl hl.1 rfl (Nat.le_of_ble_eq_true rfl) d_X8_setLaw_4 (fun r_1 w_3 H locs hw_2 hP hD hS => ?_)
  obtain ⟨hr_4, rfl⟩ := hw_2
  subst hr_4
  have hP : va_P D vwCl [] H := hP
  have hD : va_D A [] := hD
  exact hret _ _ _ _ [] _ _ _ (hP.sub (ws' := []) [] rfl) (hD.sub (ws' := []) [] (by decide) rfl) hS (Nat.le_of_ble_eq_true rfl) (Nat.le_of_ble_eq_true rfl) d_X8_setLaw_7 (rfl) ⟨rfl, rfl⟩
set_option maxHeartbeats 4000000 in
set_option maxRecDepth 100000 in
theorem c_X8_undo (l : Launch) (D : va_G) (cI cZ cQ : ClassId) (x tx nw sp ac cr sg sl fl : Nat) (k1 k2 k3 : Nat) : cu_R l D (cu_TY cI cZ cQ) yX8_undo cX8_undo 1 .int 0 0 [.ref x] [(x, .inr (6, [.ref tx, .ref nw, .ref sp, .ref ac, .ref cr, .ref sg, .ref sl, .ref fl, .null, .long 0])), (ac, .inr (0, [.ref k1, .ref k2, .ref k3, .int 0, .int 0]))] (fun r => r = (-3)) := by
  refine cu_R.intro (by decide) (Nat.le_of_ble_eq_true rfl) ?_
  intro p e s m args below meth c Q ls S hret hP hK hl
  obtain ⟨hx, hb, hml, hown, hg⟩ := S
  have hown : s.vm.findClass RX8 = some m.cls := hown
  have hl : lv_has ls 1 [(0, .ref x)] := hl
  refine lv_aload_n hx hb d_X8_undo_0 rfl (lv_at hl 0 rfl) ?_
  refine va_get (D := D) (ci := 6) (v := .ref ac) (C := RX8) (T := TX8) (N := 10) hx hb hg cu_iX8 hown hK.1 hP 0 rfl rfl 3 (by decide) (hg _ k_182) (fun _ h9 => h9) rfl d_X8_undo_1 ?_
  refine va_get (D := D) (ci := 0) (v := .int 0) (C := RX0) (T := TX0) (N := 5) hx hb hg cu_iX0 hown hK.1 hP 1 rfl rfl 4 (by decide) (hg _ k_132) (fun _ h9 => h9) rfl d_X8_undo_4 ?_
  refine lv_if_ne (tgt := 13) hx hb d_X8_undo_7 (by decide) (fun c_1 => absurd (by decide +kernel) c_1) (fun _ => ?_)
  refine lv_bipush (v := (-3)) hx hb d_X8_undo_10 (by decide) ?_
  exact hret _ _ _ d_X8_undo_12 (rfl) (rfl)
set_option maxHeartbeats 4000000 in
set_option maxRecDepth 100000 in
theorem c_X8_fits (l : Launch) (D : va_G) (cI cZ cQ : ClassId) (x tx nw sp ac cr sg sl fl : Nat) (w y a u : Nat) (c1 c2 c3 : Int32) : cu_R l D (cu_TY cI cZ cQ) yX8_fits cX8_fits 7 .int 1 21 [.ref x, .int c1, .int c2, .int c3] [(x, .inr (6, [.ref tx, .ref nw, .ref sp, .ref ac, .ref cr, .ref sg, .ref sl, .ref fl, .null, .long 0])), (nw, .inr (2, [.ref w, .ref y, .ref a, .ref u, .int 0, .int 0, .int 1, .int 0]))] (fun r => r = (-1)) := by
  refine cu_R.intro (by decide) (Nat.le_of_ble_eq_true rfl) ?_
  intro p e s m args below meth c Q ls S hret hP hK hl
  obtain ⟨hx, hb, hml, hown, hg⟩ := S
  have hown : s.vm.findClass RX8 = some m.cls := hown
  have hl : lv_has ls 7 [(0, .ref x), (1, .int c1), (2, .int c2), (3, .int c3)] := hl
  refine lv_aload_n hx hb d_X8_fits_0 rfl (lv_at hl 0 rfl) ?_
  refine va_get (D := D) (ci := 6) (v := .ref nw) (C := RX8) (T := TX8) (N := 10) hx hb hg cu_iX8 hown hK.1 hP 0 rfl rfl 1 (by decide) (hg _ k_180) (fun _ h9 => h9) rfl d_X8_fits_1 ?_
  refine lv_iload_n hx hb d_X8_fits_4 rfl (lv_at hl 1 rfl) ?_
  refine cu_VR (wc := [(nw, .inr (2, [.ref w, .ref y, .ref a, .ref u, .int 0, .int 0, .int 1, .int 0]))]) (rest := []) [.int c1] ⟨hx, hb, hml, hown, hg⟩ (c_X3_hasCoin l D cI cZ cQ nw w y a u 1 0 c1) hd_X3_hasCoin k_281 k_278 k_279 k_280 k_45 ⟨Nat.le_of_ble_eq_true rfl, Nat.le_of_ble_eq_true rfl⟩ ⟨Nat.le_of_ble_eq_true rfl, Nat.le_of_ble_eq_true rfl⟩ hP hK [1] rfl 0 rfl rfl rfl hl.1 rfl (Nat.le_of_ble_eq_true rfl) d_X8_fits_5 (fun r_1 hr_2 => ?_)
  subst hr_2
  refine lv_if_ne (tgt := 13) hx hb d_X8_fits_8 (by decide) (fun c_3 => absurd (by decide +kernel) c_3) (fun _ => ?_)
  refine lv_iconst (v := (-1)) hx hb d_X8_fits_11 (by decide) ?_
  exact hret _ _ _ d_X8_fits_12 (rfl) (rfl)
set_option maxHeartbeats 4000000 in
set_option maxRecDepth 100000 in
theorem c_X8_chain (l : Launch) (D : va_G) (cI cZ cQ : ClassId) (x tx nw sp ac cr sg sl fl : Nat) (w y a u : Nat) (c1 c2 : Int32) : cu_R l D (cu_TY cI cZ cQ) yX8_chain cX8_chain 4 .int 1 21 [.ref x, .int c1, .int c2] [(x, .inr (6, [.ref tx, .ref nw, .ref sp, .ref ac, .ref cr, .ref sg, .ref sl, .ref fl, .null, .long 0])), (nw, .inr (2, [.ref w, .ref y, .ref a, .ref u, .int 0, .int 0, .int 1, .int 0]))] (fun r => r = (-1)) := by
  refine cu_R.intro (by decide) (Nat.le_of_ble_eq_true rfl) ?_
  intro p e s m args below meth c Q ls S hret hP hK hl
  obtain ⟨hx, hb, hml, hown, hg⟩ := S
  have hown : s.vm.findClass RX8 = some m.cls := hown
  have hl : lv_has ls 4 [(0, .ref x), (1, .int c1), (2, .int c2)] := hl
  refine lv_aload_n hx hb d_X8_chain_0 rfl (lv_at hl 0 rfl) ?_
  refine va_get (D := D) (ci := 6) (v := .ref nw) (C := RX8) (T := TX8) (N := 10) hx hb hg cu_iX8 hown hK.1 hP 0 rfl rfl 1 (by decide) (hg _ k_180) (fun _ h9 => h9) rfl d_X8_chain_1 ?_
  refine lv_iload_n hx hb d_X8_chain_4 rfl (lv_at hl 1 rfl) ?_
  refine cu_VR (wc := [(nw, .inr (2, [.ref w, .ref y, .ref a, .ref u, .int 0, .int 0, .int 1, .int 0]))]) (rest := []) [.int c1] ⟨hx, hb, hml, hown, hg⟩ (c_X3_hasCoin l D cI cZ cQ nw w y a u 1 0 c1) hd_X3_hasCoin k_281 k_278 k_279 k_280 k_45 ⟨Nat.le_of_ble_eq_true rfl, Nat.le_of_ble_eq_true rfl⟩ ⟨Nat.le_of_ble_eq_true rfl, Nat.le_of_ble_eq_true rfl⟩ hP hK [1] rfl 0 rfl rfl rfl hl.1 rfl (Nat.le_of_ble_eq_true rfl) d_X8_chain_5 (fun r_1 hr_2 => ?_)
  subst hr_2
  refine lv_if_ne (tgt := 13) hx hb d_X8_chain_8 (by decide) (fun c_3 => absurd (by decide +kernel) c_3) (fun _ => ?_)
  refine lv_iconst (v := (-1)) hx hb d_X8_chain_11 (by decide) ?_
  exact hret _ _ _ d_X8_chain_12 (rfl) (rfl)
set_option maxHeartbeats 4000000 in
set_option maxRecDepth 100000 in
theorem c_X8_see (l : Launch) (D : va_G) (cI cZ cQ : ClassId) (x tx nw sp ac cr sg sl fl : Nat) (w y a u : Nat) (c1 c2 : Int32) : cu_R l D (cu_TY cI cZ cQ) yX8_see cX8_see 3 .int 1 21 [.ref x, .int c1, .int c2] [(x, .inr (6, [.ref tx, .ref nw, .ref sp, .ref ac, .ref cr, .ref sg, .ref sl, .ref fl, .null, .long 0])), (nw, .inr (2, [.ref w, .ref y, .ref a, .ref u, .int 0, .int 0, .int 1, .int 0]))] (fun r => r = (-1)) := by
  refine cu_R.intro (by decide) (Nat.le_of_ble_eq_true rfl) ?_
  intro p e s m args below meth c Q ls S hret hP hK hl
  obtain ⟨hx, hb, hml, hown, hg⟩ := S
  have hown : s.vm.findClass RX8 = some m.cls := hown
  have hl : lv_has ls 3 [(0, .ref x), (1, .int c1), (2, .int c2)] := hl
  refine lv_aload_n hx hb d_X8_see_0 rfl (lv_at hl 0 rfl) ?_
  refine va_get (D := D) (ci := 6) (v := .ref nw) (C := RX8) (T := TX8) (N := 10) hx hb hg cu_iX8 hown hK.1 hP 0 rfl rfl 1 (by decide) (hg _ k_180) (fun _ h9 => h9) rfl d_X8_see_1 ?_
  refine lv_iload_n hx hb d_X8_see_4 rfl (lv_at hl 1 rfl) ?_
  refine cu_VR (wc := [(nw, .inr (2, [.ref w, .ref y, .ref a, .ref u, .int 0, .int 0, .int 1, .int 0]))]) (rest := []) [.int c1] ⟨hx, hb, hml, hown, hg⟩ (c_X3_hasCoin l D cI cZ cQ nw w y a u 1 0 c1) hd_X3_hasCoin k_281 k_278 k_279 k_280 k_45 ⟨Nat.le_of_ble_eq_true rfl, Nat.le_of_ble_eq_true rfl⟩ ⟨Nat.le_of_ble_eq_true rfl, Nat.le_of_ble_eq_true rfl⟩ hP hK [1] rfl 0 rfl rfl rfl hl.1 rfl (Nat.le_of_ble_eq_true rfl) d_X8_see_5 (fun r_1 hr_2 => ?_)
  subst hr_2
  refine lv_if_ne (tgt := 13) hx hb d_X8_see_8 (by decide) (fun c_3 => absurd (by decide +kernel) c_3) (fun _ => ?_)
  refine lv_iconst (v := (-1)) hx hb d_X8_see_11 (by decide) ?_
  exact hret _ _ _ d_X8_see_12 (rfl) (rfl)
set_option maxHeartbeats 4000000 in
set_option maxRecDepth 100000 in
theorem c_X8_unsee (l : Launch) (D : va_G) (cI cZ cQ : ClassId) (x tx nw sp ac cr sg sl fl : Nat) (g1 g2 : Nat) : cu_W l D (cu_TY cI cZ cQ) yX8_unsee cX8_unsee 2 .int 0 0 0 0 [.ref x] [(x, .inr (6, [.ref tx, .ref nw, .ref sp, .ref ac, .ref cr, .ref sg, .ref sl, .ref fl, .null, .long 0])), (sg, .inr (3, [.ref g1, .ref g2, .int 0]))] (fun r ww => (r = 0) ∧ ww = []) := by
  refine cu_W.intro (by decide) (Nat.le_of_ble_eq_true rfl) ?_
  intro p e s m args below meth c Q ls A S hret hP hD hS hA hK hl
  obtain ⟨hx, hb, hml, hown, hg⟩ := S
  have hown : s.vm.findClass RX8 = some m.cls := hown
  have hl : lv_has ls 2 [(0, .ref x)] := hl
  refine lv_aload_n hx hb d_X8_unsee_0 rfl (lv_at hl 0 rfl) ?_
  refine va_get (D := D) (ci := 6) (v := .ref sg) (C := RX8) (T := TX8) (N := 10) hx hb hg cu_iX8 hown hK.1 hP 0 rfl rfl 5 (by decide) (hg _ k_184) (fun _ h9 => h9) rfl d_X8_unsee_1 ?_
  refine va_get (D := D) (ci := 3) (v := .int 0) (C := RX4) (T := TX4) (N := 3) hx hb hg cu_iX4 hown hK.1 hP 1 rfl rfl 2 (by decide) (hg _ k_169) (fun _ h9 => h9) rfl d_X8_unsee_4 ?_
  refine lv_istore_n (lv' := [(1, .int 0), (0, .ref x)]) hx hb d_X8_unsee_7 rfl hl (by decide) rfl (fun ls hl => ?_)
  refine lv_aload_n hx hb d_X8_unsee_8 rfl (lv_at hl 1 rfl) ?_
  refine va_get (D := D) (ci := 6) (v := .ref sg) (C := RX8) (T := TX8) (N := 10) hx hb hg cu_iX8 hown hK.1 hP 0 rfl rfl 5 (by decide) (hg _ k_184) (fun _ h9 => h9) rfl d_X8_unsee_9 ?_
  refine lv_iconst (v := 0) hx hb d_X8_unsee_12 (by decide) ?_
  refine va_put (D := D) (ci := 3) (v := .int 0) (ty := .int) (C := RX4) (T := TX4) (N := 3) hx hb hg cu_iX4 tyX4 tyX4_ok nmX4 hown hK.1 hP hD hS 1 rfl rfl 2 (by decide) (hg _ k_169) (fun _ h9 => h9) rfl (by decide +kernel) rfl rfl (Nat.le_of_ble_eq_true rfl) d_X8_unsee_13 (fun H locs hP hD hS => ?_)
  have hP : va_P D vwCl [(x, .inr (6, [.ref tx, .ref nw, .ref sp, .ref ac, .ref cr, .ref sg, .ref sl, .ref fl, .null, .long 0])), (sg, .inr (3, [.ref g1, .ref g2, .int 0]))] H := hP
  have hD : va_D A [(x, .inr (6, [.ref tx, .ref nw, .ref sp, .ref ac, .ref cr, .ref sg, .ref sl, .ref fl, .null, .long 0])), (sg, .inr (3, [.ref g1, .ref g2, .int 0]))] := hD
  refine lv_iload_n hx hb d_X8_unsee_16 rfl (lv_at hl 0 rfl) ?_
  exact hret _ _ _ _ [] _ _ _ (hP.sub (ws' := []) [] rfl) (hD.sub (ws' := []) [] (by decide) rfl) hS (Nat.le_of_ble_eq_true rfl) (Nat.le_of_ble_eq_true rfl) d_X8_unsee_17 (rfl) ⟨rfl, rfl⟩
set_option maxHeartbeats 4000000 in
set_option maxRecDepth 100000 in
theorem c_X8_share (l : Launch) (D : va_G) (cI cZ cQ : ClassId) (x tx nw sp ac cr sg sl fl : Nat) (w y a u : Nat) (c1 c2 : Int32) : cu_R l D (cu_TY cI cZ cQ) yX8_share cX8_share 3 .int 1 21 [.ref x, .int c1, .int c2] [(x, .inr (6, [.ref tx, .ref nw, .ref sp, .ref ac, .ref cr, .ref sg, .ref sl, .ref fl, .null, .long 0])), (nw, .inr (2, [.ref w, .ref y, .ref a, .ref u, .int 0, .int 0, .int 1, .int 0]))] (fun r => r = (-1)) := by
  refine cu_R.intro (by decide) (Nat.le_of_ble_eq_true rfl) ?_
  intro p e s m args below meth c Q ls S hret hP hK hl
  obtain ⟨hx, hb, hml, hown, hg⟩ := S
  have hown : s.vm.findClass RX8 = some m.cls := hown
  have hl : lv_has ls 3 [(0, .ref x), (1, .int c1), (2, .int c2)] := hl
  refine lv_aload_n hx hb d_X8_share_0 rfl (lv_at hl 0 rfl) ?_
  refine va_get (D := D) (ci := 6) (v := .ref nw) (C := RX8) (T := TX8) (N := 10) hx hb hg cu_iX8 hown hK.1 hP 0 rfl rfl 1 (by decide) (hg _ k_180) (fun _ h9 => h9) rfl d_X8_share_1 ?_
  refine lv_iload_n hx hb d_X8_share_4 rfl (lv_at hl 1 rfl) ?_
  refine cu_VR (wc := [(nw, .inr (2, [.ref w, .ref y, .ref a, .ref u, .int 0, .int 0, .int 1, .int 0]))]) (rest := []) [.int c1] ⟨hx, hb, hml, hown, hg⟩ (c_X3_hasCoin l D cI cZ cQ nw w y a u 1 0 c1) hd_X3_hasCoin k_281 k_278 k_279 k_280 k_45 ⟨Nat.le_of_ble_eq_true rfl, Nat.le_of_ble_eq_true rfl⟩ ⟨Nat.le_of_ble_eq_true rfl, Nat.le_of_ble_eq_true rfl⟩ hP hK [1] rfl 0 rfl rfl rfl hl.1 rfl (Nat.le_of_ble_eq_true rfl) d_X8_share_5 (fun r_1 hr_2 => ?_)
  subst hr_2
  refine lv_if_ne (tgt := 13) hx hb d_X8_share_8 (by decide) (fun c_3 => absurd (by decide +kernel) c_3) (fun _ => ?_)
  refine lv_iconst (v := (-1)) hx hb d_X8_share_11 (by decide) ?_
  exact hret _ _ _ d_X8_share_12 (rfl) (rfl)
set_option maxHeartbeats 4000000 in
set_option maxRecDepth 100000 in
theorem c_X8_seed (l : Launch) (D : va_G) (cI cZ cQ : ClassId) (x tx nw sp ac cr sg sl fl : Nat) (v : Int64) : cu_L l D (cu_TY cI cZ cQ) yX8_seed cX8_seed 5 0 0 0 0 [.ref x, .long v] [(x, .inr (6, [.ref tx, .ref nw, .ref sp, .ref ac, .ref cr, .ref sg, .ref sl, .ref fl, .null, .long 0]))] (fun r ww => (r = 0) ∧ ww = []) := by
  refine cu_L.intro (by decide) (Nat.le_of_ble_eq_true rfl) ?_
  intro p e s m args below meth c Q ls A S hret hP hD hS hA hK hl
  obtain ⟨hx, hb, hml, hown, hg⟩ := S
  have hown : s.vm.findClass RX8 = some m.cls := hown
  have hl : lv_has ls 5 [(0, .ref x), (1, .long v)] := hl
  refine lv_aload_n hx hb d_X8_seed_0 rfl (lv_at hl 0 rfl) ?_
  refine va_get (D := D) (ci := 6) (v := .long 0) (C := RX8) (T := TX8) (N := 10) hx hb hg cu_iX8 hown hK.1 hP 0 rfl rfl 9 (by decide) (hg _ k_188) (fun _ h9 => h9) rfl d_X8_seed_1 ?_
  refine lv_lstore_n (lv' := [(3, .long 0), (0, .ref x), (1, .long v)]) hx hb d_X8_seed_4 rfl hl (by decide) rfl (fun ls hl => ?_)
  refine lv_aload_n hx hb d_X8_seed_5 rfl (lv_at hl 1 rfl) ?_
  refine lv_lload_n hx hb d_X8_seed_6 rfl (lv_at hl 2 rfl) ?_
  refine va_put (D := D) (ci := 6) (v := .long v) (ty := .long) (C := RX8) (T := TX8) (N := 10) hx hb hg cu_iX8 tyX8 tyX8_ok nmX8 hown hK.1 hP hD hS 0 rfl rfl 9 (by decide) (hg _ k_188) (fun _ h9 => h9) rfl (by decide +kernel) rfl rfl (Nat.le_of_ble_eq_true rfl) d_X8_seed_7 (fun H locs hP hD hS => ?_)
  have hP : va_P D vwCl [(x, .inr (6, [.ref tx, .ref nw, .ref sp, .ref ac, .ref cr, .ref sg, .ref sl, .ref fl, .null, .long v]))] H := hP
  have hD : va_D A [(x, .inr (6, [.ref tx, .ref nw, .ref sp, .ref ac, .ref cr, .ref sg, .ref sl, .ref fl, .null, .long v]))] := hD
  refine lv_lload_n hx hb d_X8_seed_10 rfl (lv_at hl 0 rfl) ?_
  exact hret _ _ _ _ [] _ _ _ (hP.sub (ws' := []) [] rfl) (hD.sub (ws' := []) [] (by decide) rfl) hS (Nat.le_of_ble_eq_true rfl) (Nat.le_of_ble_eq_true rfl) d_X8_seed_11 ⟨rfl, rfl⟩
def cu_sag (c1 : Int32) : Int32 := if c1 < 0 then (-1) else if c1 < 2 then (-3) else (-1)
set_option maxHeartbeats 4000000 in
set_option maxRecDepth 100000 in
theorem c_X8_again (l : Launch) (D : va_G) (cI cZ cQ : ClassId) (x tx nw sp ac cr sg sl fl : Nat) (c1 : Int32) : cu_R l D (cu_TY cI cZ cQ) yX8_again cX8_again 2 .int 0 0 [.ref x, .int c1] [(x, .inr (6, [.ref tx, .ref nw, .ref sp, .ref ac, .ref cr, .ref sg, .ref sl, .ref fl, .null, .long 0])), (fl, .inl (cZ, 2, .inl (fun _ => 0)))] (fun r => r = cu_sag c1) := by
  refine cu_R.intro (by decide) (Nat.le_of_ble_eq_true rfl) ?_
  intro p e s m args below meth c Q ls S hret hP hK hl
  obtain ⟨hx, hb, hml, hown, hg⟩ := S
  have hown : s.vm.findClass RX8 = some m.cls := hown
  have hl : lv_has ls 2 [(0, .ref x), (1, .int c1)] := hl
  refine lv_iload_n hx hb d_X8_again_0 rfl (lv_at hl 1 rfl) ?_
  refine lv_if_lt (tgt := 9) hx hb d_X8_again_1 (by decide) (fun c_1 => ?_) (fun c_1 => ?_)
  · skip
    refine lv_iconst (v := (-1)) hx hb d_X8_again_9 (by decide) ?_
    exact hret _ _ _ d_X8_again_10 (rfl) (by unfold cu_sag; rw [if_pos c_1])
  · skip
    refine lv_iload_n hx hb d_X8_again_4 rfl (lv_at hl 1 rfl) ?_
    refine lv_iconst (v := 2) hx hb d_X8_again_5 (by decide) ?_
    refine lv_icmp_lt (tgt := 11) hx hb d_X8_again_6 (by decide) (fun c_2 => ?_) (fun c_2 => ?_)
    · skip
      refine lv_aload_n hx hb d_X8_again_11 rfl (lv_at hl 0 rfl) ?_
      refine va_get (D := D) (ci := 6) (v := .ref fl) (C := RX8) (T := TX8) (N := 10) hx hb hg cu_iX8 hown hK.1 hP 0 rfl rfl 7 (by decide) (hg _ k_186) (fun _ h9 => h9) rfl d_X8_again_12 ?_
      refine lv_iload_n hx hb d_X8_again_15 rfl (lv_at hl 1 rfl) ?_
      refine va_zald hx hb hK.1 hP 1 1 rfl rfl (cu_in2 c_1 c_2) d_X8_again_16 ?_
      refine cu_topi (y := 0) rfl ?_
      refine lv_if_ne (tgt := 23) hx hb d_X8_again_17 (by decide) (fun c_3 => absurd (by decide +kernel) c_3) (fun _ => ?_)
      refine lv_bipush (v := (-3)) hx hb d_X8_again_20 (by decide) ?_
      exact hret _ _ _ d_X8_again_22 (rfl) (by unfold cu_sag; rw [if_neg c_1, if_pos c_2])
    · skip
      refine lv_iconst (v := (-1)) hx hb d_X8_again_9 (by decide) ?_
      exact hret _ _ _ d_X8_again_10 (rfl) (by unfold cu_sag; rw [if_neg c_1, if_neg c_2])
def cu_sct (c1 : Int32) : Int32 := if c1 = 0 then 0 else if c1 = 1 then 0 else if c1 = 2 then 0 else if c1 = 3 then 1 else if c1 = 4 then 0 else if c1 = 5 then 0 else if c1 = 6 then 0 else if c1 = 7 then 0 else if c1 = 8 then 0 else (-2)
set_option maxHeartbeats 4000000 in
set_option maxRecDepth 100000 in
theorem c_X8_count (l : Launch) (D : va_G) (cI cZ cQ : ClassId) (x tx nw sp ac cr sg sl fl : Nat) (w y a u : Nat) (ts k1 k2 k3 g1 g2 : Nat) (c1 : Int32) : cu_R l D (cu_TY cI cZ cQ) yX8_count cX8_count 2 .int 1 23 [.ref x, .int c1] [(x, .inr (6, [.ref tx, .ref nw, .ref sp, .ref ac, .ref cr, .ref sg, .ref sl, .ref fl, .null, .long 0])), (nw, .inr (2, [.ref w, .ref y, .ref a, .ref u, .int 0, .int 0, .int 1, .int 0])), (tx, .inr (5, [.ref ts, .int 0])), (ac, .inr (0, [.ref k1, .ref k2, .ref k3, .int 0, .int 0])), (sg, .inr (3, [.ref g1, .ref g2, .int 0]))] (fun r => r = cu_sct c1) := by
  refine cu_R.intro (by decide) (Nat.le_of_ble_eq_true rfl) ?_
  intro p e s m args below meth c Q ls S hret hP hK hl
  obtain ⟨hx, hb, hml, hown, hg⟩ := S
  have hown : s.vm.findClass RX8 = some m.cls := hown
  have hl : lv_has ls 2 [(0, .ref x), (1, .int c1)] := hl
  refine lv_iload_n hx hb d_X8_count_0 rfl (lv_at hl 1 rfl) ?_
  by_cases hk_1 : c1 = 0
  · skip
    refine cu_topi (y := 0) hk_1 ?_
    refine lv_tableIn (off := 51) (tgt := 52) hx hb d_X8_count_1 (by decide) (by decide) (by decide +kernel) (by decide) ?_
    refine lv_aload_n hx hb d_X8_count_52 rfl (lv_at hl 0 rfl) ?_
    refine va_get (D := D) (ci := 6) (v := .ref tx) (C := RX8) (T := TX8) (N := 10) hx hb hg cu_iX8 hown hK.1 hP 0 rfl rfl 0 (by decide) (hg _ k_179) (fun _ h9 => h9) rfl d_X8_count_53 ?_
    refine va_get (D := D) (ci := 5) (v := .int 0) (C := RX7) (T := TX7) (N := 2) hx hb hg cu_iX7 hown hK.1 hP 2 rfl rfl 1 (by decide) (hg _ k_71) (fun _ h9 => h9) rfl d_X8_count_56 ?_
    exact hret _ _ _ d_X8_count_59 (rfl) (by unfold cu_sct; rw [if_pos hk_1])
  · skip
    by_cases hk_2 : c1 = 1
    · skip
      refine cu_topi (y := 1) hk_2 ?_
      refine lv_tableIn (off := 59) (tgt := 60) hx hb d_X8_count_1 (by decide) (by decide) (by decide +kernel) (by decide) ?_
      refine lv_aload_n hx hb d_X8_count_60 rfl (lv_at hl 0 rfl) ?_
      refine va_get (D := D) (ci := 6) (v := .ref nw) (C := RX8) (T := TX8) (N := 10) hx hb hg cu_iX8 hown hK.1 hP 0 rfl rfl 1 (by decide) (hg _ k_180) (fun _ h9 => h9) rfl d_X8_count_61 ?_
      refine va_get (D := D) (ci := 2) (v := .int 0) (C := RX3) (T := TX3) (N := 8) hx hb hg cu_iX3 hown hK.1 hP 1 rfl rfl 4 (by decide) (hg _ k_96) (fun _ h9 => h9) rfl d_X8_count_64 ?_
      exact hret _ _ _ d_X8_count_67 (rfl) (by unfold cu_sct; rw [if_neg hk_1, if_pos hk_2])
    · skip
      by_cases hk_3 : c1 = 2
      · skip
        refine cu_topi (y := 2) hk_3 ?_
        refine lv_tableIn (off := 67) (tgt := 68) hx hb d_X8_count_1 (by decide) (by decide) (by decide +kernel) (by decide) ?_
        refine lv_aload_n hx hb d_X8_count_68 rfl (lv_at hl 0 rfl) ?_
        refine va_get (D := D) (ci := 6) (v := .ref nw) (C := RX8) (T := TX8) (N := 10) hx hb hg cu_iX8 hown hK.1 hP 0 rfl rfl 1 (by decide) (hg _ k_180) (fun _ h9 => h9) rfl d_X8_count_69 ?_
        refine va_get (D := D) (ci := 2) (v := .int 0) (C := RX3) (T := TX3) (N := 8) hx hb hg cu_iX3 hown hK.1 hP 1 rfl rfl 5 (by decide) (hg _ k_99) (fun _ h9 => h9) rfl d_X8_count_72 ?_
        exact hret _ _ _ d_X8_count_75 (rfl) (by unfold cu_sct; rw [if_neg hk_1, if_neg hk_2, if_pos hk_3])
      · skip
        by_cases hk_4 : c1 = 3
        · skip
          refine cu_topi (y := 3) hk_4 ?_
          refine lv_tableIn (off := 75) (tgt := 76) hx hb d_X8_count_1 (by decide) (by decide) (by decide +kernel) (by decide) ?_
          refine lv_aload_n hx hb d_X8_count_76 rfl (lv_at hl 0 rfl) ?_
          refine va_get (D := D) (ci := 6) (v := .ref nw) (C := RX8) (T := TX8) (N := 10) hx hb hg cu_iX8 hown hK.1 hP 0 rfl rfl 1 (by decide) (hg _ k_180) (fun _ h9 => h9) rfl d_X8_count_77 ?_
          refine va_get (D := D) (ci := 2) (v := .int 1) (C := RX3) (T := TX3) (N := 8) hx hb hg cu_iX3 hown hK.1 hP 1 rfl rfl 6 (by decide) (hg _ k_101) (fun _ h9 => h9) rfl d_X8_count_80 ?_
          exact hret _ _ _ d_X8_count_83 (rfl) (by unfold cu_sct; rw [if_neg hk_1, if_neg hk_2, if_neg hk_3, if_pos hk_4])
        · skip
          by_cases hk_5 : c1 = 4
          · skip
            refine cu_topi (y := 4) hk_5 ?_
            refine lv_tableIn (off := 83) (tgt := 84) hx hb d_X8_count_1 (by decide) (by decide) (by decide +kernel) (by decide) ?_
            refine lv_aload_n hx hb d_X8_count_84 rfl (lv_at hl 0 rfl) ?_
            refine va_get (D := D) (ci := 6) (v := .ref nw) (C := RX8) (T := TX8) (N := 10) hx hb hg cu_iX8 hown hK.1 hP 0 rfl rfl 1 (by decide) (hg _ k_180) (fun _ h9 => h9) rfl d_X8_count_85 ?_
            refine va_get (D := D) (ci := 2) (v := .int 0) (C := RX3) (T := TX3) (N := 8) hx hb hg cu_iX3 hown hK.1 hP 1 rfl rfl 7 (by decide) (hg _ k_103) (fun _ h9 => h9) rfl d_X8_count_88 ?_
            exact hret _ _ _ d_X8_count_91 (rfl) (by unfold cu_sct; rw [if_neg hk_1, if_neg hk_2, if_neg hk_3, if_neg hk_4, if_pos hk_5])
          · skip
            by_cases hk_6 : c1 = 5
            · skip
              refine cu_topi (y := 5) hk_6 ?_
              refine lv_tableIn (off := 91) (tgt := 92) hx hb d_X8_count_1 (by decide) (by decide) (by decide +kernel) (by decide) ?_
              refine lv_aload_n hx hb d_X8_count_92 rfl (lv_at hl 0 rfl) ?_
              refine va_get (D := D) (ci := 6) (v := .ref nw) (C := RX8) (T := TX8) (N := 10) hx hb hg cu_iX8 hown hK.1 hP 0 rfl rfl 1 (by decide) (hg _ k_180) (fun _ h9 => h9) rfl d_X8_count_93 ?_
              refine cu_VR (wc := [(nw, .inr (2, [.ref w, .ref y, .ref a, .ref u, .int 0, .int 0, .int 1, .int 0]))]) (rest := []) [] ⟨hx, hb, hml, hown, hg⟩ (c_X3_setAside l D cI cZ cQ nw w y a u 1 0) hd_X3_setAside k_677 k_674 k_675 k_676 k_45 ⟨Nat.le_of_ble_eq_true rfl, Nat.le_of_ble_eq_true rfl⟩ ⟨Nat.le_of_ble_eq_true rfl, Nat.le_of_ble_eq_true rfl⟩ hP hK [1] rfl 0 rfl rfl rfl hl.1 rfl (Nat.le_of_ble_eq_true rfl) d_X8_count_96 (fun r_7 hr_8 => ?_)
              subst hr_8
              exact hret _ _ _ d_X8_count_99 (rfl) (by unfold cu_sct; rw [if_neg hk_1, if_neg hk_2, if_neg hk_3, if_neg hk_4, if_neg hk_5, if_pos hk_6])
            · skip
              by_cases hk_9 : c1 = 6
              · skip
                refine cu_topi (y := 6) hk_9 ?_
                refine lv_tableIn (off := 99) (tgt := 100) hx hb d_X8_count_1 (by decide) (by decide) (by decide +kernel) (by decide) ?_
                refine lv_aload_n hx hb d_X8_count_100 rfl (lv_at hl 0 rfl) ?_
                refine va_get (D := D) (ci := 6) (v := .ref nw) (C := RX8) (T := TX8) (N := 10) hx hb hg cu_iX8 hown hK.1 hP 0 rfl rfl 1 (by decide) (hg _ k_180) (fun _ h9 => h9) rfl d_X8_count_101 ?_
                refine lv_bipush (v := (-9)) hx hb d_X8_count_104 (by decide) ?_
                refine cu_VR (wc := [(nw, .inr (2, [.ref w, .ref y, .ref a, .ref u, .int 0, .int 0, .int 1, .int 0]))]) (rest := []) [.int (-9)] ⟨hx, hb, hml, hown, hg⟩ (c_X3_setOfMint l D cI cZ cQ nw w y a u 1 0 (-9)) hd_X3_setOfMint k_325 k_322 k_323 k_324 k_45 ⟨Nat.le_of_ble_eq_true rfl, Nat.le_of_ble_eq_true rfl⟩ ⟨Nat.le_of_ble_eq_true rfl, Nat.le_of_ble_eq_true rfl⟩ hP hK [1] rfl 0 rfl rfl rfl hl.1 rfl (Nat.le_of_ble_eq_true rfl) d_X8_count_106 (fun r_10 hr_11 => ?_)
                subst hr_11
                exact hret _ _ _ d_X8_count_109 (rfl) (by unfold cu_sct; rw [if_neg hk_1, if_neg hk_2, if_neg hk_3, if_neg hk_4, if_neg hk_5, if_neg hk_6, if_pos hk_9])
              · skip
                by_cases hk_12 : c1 = 7
                · skip
                  refine cu_topi (y := 7) hk_12 ?_
                  refine lv_tableIn (off := 109) (tgt := 110) hx hb d_X8_count_1 (by decide) (by decide) (by decide +kernel) (by decide) ?_
                  refine lv_aload_n hx hb d_X8_count_110 rfl (lv_at hl 0 rfl) ?_
                  refine va_get (D := D) (ci := 6) (v := .ref ac) (C := RX8) (T := TX8) (N := 10) hx hb hg cu_iX8 hown hK.1 hP 0 rfl rfl 3 (by decide) (hg _ k_182) (fun _ h9 => h9) rfl d_X8_count_111 ?_
                  refine va_get (D := D) (ci := 0) (v := .int 0) (C := RX0) (T := TX0) (N := 5) hx hb hg cu_iX0 hown hK.1 hP 3 rfl rfl 4 (by decide) (hg _ k_132) (fun _ h9 => h9) rfl d_X8_count_114 ?_
                  exact hret _ _ _ d_X8_count_117 (rfl) (by unfold cu_sct; rw [if_neg hk_1, if_neg hk_2, if_neg hk_3, if_neg hk_4, if_neg hk_5, if_neg hk_6, if_neg hk_9, if_pos hk_12])
                · skip
                  by_cases hk_13 : c1 = 8
                  · skip
                    refine cu_topi (y := 8) hk_13 ?_
                    refine lv_tableIn (off := 117) (tgt := 118) hx hb d_X8_count_1 (by decide) (by decide) (by decide +kernel) (by decide) ?_
                    refine lv_aload_n hx hb d_X8_count_118 rfl (lv_at hl 0 rfl) ?_
                    refine va_get (D := D) (ci := 6) (v := .ref sg) (C := RX8) (T := TX8) (N := 10) hx hb hg cu_iX8 hown hK.1 hP 0 rfl rfl 5 (by decide) (hg _ k_184) (fun _ h9 => h9) rfl d_X8_count_119 ?_
                    refine va_get (D := D) (ci := 3) (v := .int 0) (C := RX4) (T := TX4) (N := 3) hx hb hg cu_iX4 hown hK.1 hP 4 rfl rfl 2 (by decide) (hg _ k_169) (fun _ h9 => h9) rfl d_X8_count_122 ?_
                    exact hret _ _ _ d_X8_count_125 (rfl) (by unfold cu_sct; rw [if_neg hk_1, if_neg hk_2, if_neg hk_3, if_neg hk_4, if_neg hk_5, if_neg hk_6, if_neg hk_9, if_neg hk_12, if_pos hk_13])
                  · skip
                    refine lv_tableOut (tgt := 126) hx hb d_X8_count_1 (cu_out9 hk_1 hk_2 hk_3 hk_4 hk_5 hk_6 hk_9 hk_12 hk_13) (by decide) ?_
                    refine lv_bipush (v := (-2)) hx hb d_X8_count_126 (by decide) ?_
                    exact hret _ _ _ d_X8_count_128 (rfl) (by unfold cu_sct; rw [if_neg hk_1, if_neg hk_2, if_neg hk_3, if_neg hk_4, if_neg hk_5, if_neg hk_6, if_neg hk_9, if_neg hk_12, if_neg hk_13])
end
section
theorem d_X3_copyFrom_0 : decode cX3_copyFrom 0 = .ok (.iconst 0, 1) := by decide +kernel
theorem d_X3_copyFrom_1 : decode cX3_copyFrom 1 = .ok (.istore_n 2, 1) := by decide +kernel
theorem d_X3_copyFrom_2 : decode cX3_copyFrom 2 = .ok (.iload_n 2, 1) := by decide +kernel
theorem d_X3_copyFrom_3 : decode cX3_copyFrom 3 = .ok (.bipush 12, 2) := by decide +kernel
theorem d_X3_copyFrom_5 : decode cX3_copyFrom 5 = .ok (.if_icmp .ge 45, 3) := by decide +kernel
theorem d_X3_copyFrom_50 : decode cX3_copyFrom 50 = .ok (.iconst 0, 1) := by decide +kernel
theorem d_X3_copyFrom_51 : decode cX3_copyFrom 51 = .ok (.istore_n 2, 1) := by decide +kernel
theorem d_X3_copyFrom_52 : decode cX3_copyFrom 52 = .ok (.iload_n 2, 1) := by decide +kernel
theorem d_X3_copyFrom_53 : decode cX3_copyFrom 53 = .ok (.iconst 3, 1) := by decide +kernel
theorem d_X3_copyFrom_54 : decode cX3_copyFrom 54 = .ok (.if_icmp .ge 21, 3) := by decide +kernel
theorem d_X3_copyFrom_75 : decode cX3_copyFrom 75 = .ok (.aload_n 0, 1) := by decide +kernel
theorem d_X3_copyFrom_76 : decode cX3_copyFrom 76 = .ok (.aload_n 1, 1) := by decide +kernel
theorem d_X3_copyFrom_77 : decode cX3_copyFrom 77 = .ok (.getfield 28, 3) := by decide +kernel
theorem d_X3_copyFrom_80 : decode cX3_copyFrom 80 = .ok (.putfield 28, 3) := by decide +kernel
theorem d_X3_copyFrom_83 : decode cX3_copyFrom 83 = .ok (.aload_n 0, 1) := by decide +kernel
theorem d_X3_copyFrom_84 : decode cX3_copyFrom 84 = .ok (.aload_n 1, 1) := by decide +kernel
theorem d_X3_copyFrom_85 : decode cX3_copyFrom 85 = .ok (.getfield 31, 3) := by decide +kernel
theorem d_X3_copyFrom_88 : decode cX3_copyFrom 88 = .ok (.putfield 31, 3) := by decide +kernel
theorem d_X3_copyFrom_91 : decode cX3_copyFrom 91 = .ok (.aload_n 0, 1) := by decide +kernel
theorem d_X3_copyFrom_92 : decode cX3_copyFrom 92 = .ok (.aload_n 1, 1) := by decide +kernel
theorem d_X3_copyFrom_93 : decode cX3_copyFrom 93 = .ok (.getfield 24, 3) := by decide +kernel
theorem d_X3_copyFrom_96 : decode cX3_copyFrom 96 = .ok (.putfield 24, 3) := by decide +kernel
theorem d_X3_copyFrom_99 : decode cX3_copyFrom 99 = .ok (.aload_n 0, 1) := by decide +kernel
theorem d_X3_copyFrom_100 : decode cX3_copyFrom 100 = .ok (.aload_n 1, 1) := by decide +kernel
theorem d_X3_copyFrom_101 : decode cX3_copyFrom 101 = .ok (.getfield 34, 3) := by decide +kernel
theorem d_X3_copyFrom_104 : decode cX3_copyFrom 104 = .ok (.putfield 34, 3) := by decide +kernel
theorem d_X3_copyFrom_107 : decode cX3_copyFrom 107 = .ok (.return_, 1) := by decide +kernel
theorem d_X3_copyFrom_57 : decode cX3_copyFrom 57 = .ok (.aload_n 0, 1) := by decide +kernel
theorem d_X3_copyFrom_58 : decode cX3_copyFrom 58 = .ok (.getfield 21, 3) := by decide +kernel
theorem d_X3_copyFrom_61 : decode cX3_copyFrom 61 = .ok (.iload_n 2, 1) := by decide +kernel
theorem d_X3_copyFrom_62 : decode cX3_copyFrom 62 = .ok (.aload_n 1, 1) := by decide +kernel
theorem d_X3_copyFrom_63 : decode cX3_copyFrom 63 = .ok (.getfield 21, 3) := by decide +kernel
theorem d_X3_copyFrom_66 : decode cX3_copyFrom 66 = .ok (.iload_n 2, 1) := by decide +kernel
theorem d_X3_copyFrom_67 : decode cX3_copyFrom 67 = .ok (.iaload, 1) := by decide +kernel
theorem d_X3_copyFrom_68 : decode cX3_copyFrom 68 = .ok (.iastore, 1) := by decide +kernel
theorem d_X3_copyFrom_69 : decode cX3_copyFrom 69 = .ok (.iinc 2 1, 3) := by decide +kernel
theorem d_X3_copyFrom_72 : decode cX3_copyFrom 72 = .ok (.goto (-20), 3) := by decide +kernel
theorem d_X3_copyFrom_8 : decode cX3_copyFrom 8 = .ok (.aload_n 0, 1) := by decide +kernel
theorem d_X3_copyFrom_9 : decode cX3_copyFrom 9 = .ok (.getfield 9, 3) := by decide +kernel
theorem d_X3_copyFrom_12 : decode cX3_copyFrom 12 = .ok (.iload_n 2, 1) := by decide +kernel
theorem d_X3_copyFrom_13 : decode cX3_copyFrom 13 = .ok (.aload_n 1, 1) := by decide +kernel
theorem d_X3_copyFrom_14 : decode cX3_copyFrom 14 = .ok (.getfield 9, 3) := by decide +kernel
theorem d_X3_copyFrom_17 : decode cX3_copyFrom 17 = .ok (.iload_n 2, 1) := by decide +kernel
theorem d_X3_copyFrom_18 : decode cX3_copyFrom 18 = .ok (.iaload, 1) := by decide +kernel
theorem d_X3_copyFrom_19 : decode cX3_copyFrom 19 = .ok (.iastore, 1) := by decide +kernel
theorem d_X3_copyFrom_20 : decode cX3_copyFrom 20 = .ok (.aload_n 0, 1) := by decide +kernel
theorem d_X3_copyFrom_21 : decode cX3_copyFrom 21 = .ok (.getfield 15, 3) := by decide +kernel
theorem d_X3_copyFrom_24 : decode cX3_copyFrom 24 = .ok (.iload_n 2, 1) := by decide +kernel
theorem d_X3_copyFrom_25 : decode cX3_copyFrom 25 = .ok (.aload_n 1, 1) := by decide +kernel
theorem d_X3_copyFrom_26 : decode cX3_copyFrom 26 = .ok (.getfield 15, 3) := by decide +kernel
theorem d_X3_copyFrom_29 : decode cX3_copyFrom 29 = .ok (.iload_n 2, 1) := by decide +kernel
theorem d_X3_copyFrom_30 : decode cX3_copyFrom 30 = .ok (.iaload, 1) := by decide +kernel
theorem d_X3_copyFrom_31 : decode cX3_copyFrom 31 = .ok (.iastore, 1) := by decide +kernel
theorem d_X3_copyFrom_32 : decode cX3_copyFrom 32 = .ok (.aload_n 0, 1) := by decide +kernel
theorem d_X3_copyFrom_33 : decode cX3_copyFrom 33 = .ok (.getfield 18, 3) := by decide +kernel
theorem d_X3_copyFrom_36 : decode cX3_copyFrom 36 = .ok (.iload_n 2, 1) := by decide +kernel
theorem d_X3_copyFrom_37 : decode cX3_copyFrom 37 = .ok (.aload_n 1, 1) := by decide +kernel
theorem d_X3_copyFrom_38 : decode cX3_copyFrom 38 = .ok (.getfield 18, 3) := by decide +kernel
theorem d_X3_copyFrom_41 : decode cX3_copyFrom 41 = .ok (.iload_n 2, 1) := by decide +kernel
theorem d_X3_copyFrom_42 : decode cX3_copyFrom 42 = .ok (.iaload, 1) := by decide +kernel
theorem d_X3_copyFrom_43 : decode cX3_copyFrom 43 = .ok (.iastore, 1) := by decide +kernel
theorem d_X3_copyFrom_44 : decode cX3_copyFrom 44 = .ok (.iinc 2 1, 3) := by decide +kernel
theorem d_X3_copyFrom_47 : decode cX3_copyFrom 47 = .ok (.goto (-45), 3) := by decide +kernel
theorem d_X8_keep_0 : decode cX8_keep 0 = .ok (.iload_n 1, 1) := by decide +kernel
theorem d_X8_keep_1 : decode cX8_keep 1 = .ok (.ifCond .lt 8, 3) := by decide +kernel
theorem d_X8_keep_9 : decode cX8_keep 9 = .ok (.iconst (-1), 1) := by decide +kernel
theorem d_X8_keep_10 : decode cX8_keep 10 = .ok (.ireturn, 1) := by decide +kernel
theorem d_X8_keep_4 : decode cX8_keep 4 = .ok (.iload_n 1, 1) := by decide +kernel
theorem d_X8_keep_5 : decode cX8_keep 5 = .ok (.iconst 2, 1) := by decide +kernel
theorem d_X8_keep_6 : decode cX8_keep 6 = .ok (.if_icmp .lt 5, 3) := by decide +kernel
theorem d_X8_keep_11 : decode cX8_keep 11 = .ok (.aload_n 0, 1) := by decide +kernel
theorem d_X8_keep_12 : decode cX8_keep 12 = .ok (.getfield 47, 3) := by decide +kernel
theorem d_X8_keep_15 : decode cX8_keep 15 = .ok (.iload_n 1, 1) := by decide +kernel
theorem d_X8_keep_16 : decode cX8_keep 16 = .ok (.aaload, 1) := by decide +kernel
theorem d_X8_keep_17 : decode cX8_keep 17 = .ok (.aload_n 0, 1) := by decide +kernel
theorem d_X8_keep_18 : decode cX8_keep 18 = .ok (.getfield 19, 3) := by decide +kernel
theorem d_X8_keep_21 : decode cX8_keep 21 = .ok (.invokevirtual 67, 3) := by decide +kernel
theorem hd_X3_copyFrom : cu_hd yX3_copyFrom 1 := by decide +kernel
theorem k_269 : (.code yX3_copyFrom cX3_copyFrom 3 none : Cond) ∈ cu_G := cu_mem 269 (by decide +kernel) (by decide +kernel)
theorem k_266 : (.methodLink RX8 67 yX3_copyFrom : Cond) ∈ cu_G := cu_mem 266 (by decide +kernel) (by decide +kernel)
theorem k_267 : (.instanceMethod yX3_copyFrom : Cond) ∈ cu_G := cu_mem 267 (by decide +kernel) (by decide +kernel)
theorem k_268 : (.selects RX3 yX3_copyFrom yX3_copyFrom : Cond) ∈ cu_G := cu_mem 268 (by decide +kernel) (by decide +kernel)
theorem d_X8_keep_24 : decode cX8_keep 24 = .ok (.aload_n 0, 1) := by decide +kernel
theorem d_X8_keep_25 : decode cX8_keep 25 = .ok (.getfield 51, 3) := by decide +kernel
theorem d_X8_keep_28 : decode cX8_keep 28 = .ok (.iload_n 1, 1) := by decide +kernel
theorem d_X8_keep_29 : decode cX8_keep 29 = .ok (.iconst 1, 1) := by decide +kernel
theorem d_X8_keep_30 : decode cX8_keep 30 = .ok (.bastore, 1) := by decide +kernel
theorem d_X8_keep_31 : decode cX8_keep 31 = .ok (.aload_n 0, 1) := by decide +kernel
theorem d_X8_keep_32 : decode cX8_keep 32 = .ok (.getfield 19, 3) := by decide +kernel
theorem d_X8_keep_35 : decode cX8_keep 35 = .ok (.getfield 74, 3) := by decide +kernel
theorem d_X8_keep_38 : decode cX8_keep 38 = .ok (.ireturn, 1) := by decide +kernel
theorem d_X8_drawn_0 : decode cX8_drawn 0 = .ok (.iload_n 1, 1) := by decide +kernel
theorem d_X8_drawn_1 : decode cX8_drawn 1 = .ok (.iconst 1, 1) := by decide +kernel
theorem d_X8_drawn_2 : decode cX8_drawn 2 = .ok (.if_icmp .lt 9, 3) := by decide +kernel
theorem d_X8_drawn_11 : decode cX8_drawn 11 = .ok (.bipush (-2), 2) := by decide +kernel
theorem d_X8_drawn_13 : decode cX8_drawn 13 = .ok (.ireturn, 1) := by decide +kernel
theorem d_X8_drawn_5 : decode cX8_drawn 5 = .ok (.iload_n 1, 1) := by decide +kernel
theorem d_X8_drawn_6 : decode cX8_drawn 6 = .ok (.bipush 20, 2) := by decide +kernel
theorem d_X8_drawn_8 : decode cX8_drawn 8 = .ok (.if_icmp .le 6, 3) := by decide +kernel
theorem d_X8_drawn_14 : decode cX8_drawn 14 = .ok (.iconst 0, 1) := by decide +kernel
theorem d_X8_drawn_15 : decode cX8_drawn 15 = .ok (.istore_n 2, 1) := by decide +kernel
theorem d_X8_drawn_16 : decode cX8_drawn 16 = .ok (.iconst 0, 1) := by decide +kernel
theorem d_X8_drawn_17 : decode cX8_drawn 17 = .ok (.istore_n 3, 1) := by decide +kernel
theorem d_X8_drawn_18 : decode cX8_drawn 18 = .ok (.iload_n 3, 1) := by decide +kernel
theorem d_X8_drawn_19 : decode cX8_drawn 19 = .ok (.iload_n 1, 1) := by decide +kernel
theorem d_X8_drawn_20 : decode cX8_drawn 20 = .ok (.if_icmp .ge 46, 3) := by decide +kernel
theorem d_X8_drawn_66 : decode cX8_drawn 66 = .ok (.iload_n 2, 1) := by decide +kernel
theorem d_X8_drawn_67 : decode cX8_drawn 67 = .ok (.ireturn, 1) := by decide +kernel
theorem d_X8_drawn_23 : decode cX8_drawn 23 = .ok (.aload_n 0, 1) := by decide +kernel
theorem d_X8_drawn_24 : decode cX8_drawn 24 = .ok (.aload_n 0, 1) := by decide +kernel
theorem d_X8_drawn_25 : decode cX8_drawn 25 = .ok (.getfield 231, 3) := by decide +kernel
theorem d_X8_drawn_28 : decode cX8_drawn 28 = .ok (.ldc2_w 235, 3) := by decide +kernel
theorem k_654 : (.constantLong RX8 235 6364136223846793005 : Cond) ∈ cu_G := cu_mem 654 (by decide +kernel) (by decide +kernel)
theorem d_X8_drawn_31 : decode cX8_drawn 31 = .ok (.lmul, 1) := by decide +kernel
theorem d_X8_drawn_32 : decode cX8_drawn 32 = .ok (.ldc2_w 237, 3) := by decide +kernel
theorem k_655 : (.constantLong RX8 237 1442695040888963407 : Cond) ∈ cu_G := cu_mem 655 (by decide +kernel) (by decide +kernel)
theorem d_X8_drawn_35 : decode cX8_drawn 35 = .ok (.ladd, 1) := by decide +kernel
theorem d_X8_drawn_36 : decode cX8_drawn 36 = .ok (.putfield 231, 3) := by decide +kernel
theorem d_X8_drawn_39 : decode cX8_drawn 39 = .ok (.aload_n 0, 1) := by decide +kernel
theorem d_X8_drawn_40 : decode cX8_drawn 40 = .ok (.getfield 19, 3) := by decide +kernel
theorem d_X8_drawn_43 : decode cX8_drawn 43 = .ok (.aload_n 0, 1) := by decide +kernel
theorem d_X8_drawn_44 : decode cX8_drawn 44 = .ok (.getfield 231, 3) := by decide +kernel
theorem d_X8_drawn_47 : decode cX8_drawn 47 = .ok (.bipush 33, 2) := by decide +kernel
theorem d_X8_drawn_49 : decode cX8_drawn 49 = .ok (.lushr, 1) := by decide +kernel
theorem d_X8_drawn_50 : decode cX8_drawn 50 = .ok (.l2i, 1) := by decide +kernel
theorem d_X8_drawn_51 : decode cX8_drawn 51 = .ok (.invokevirtual 239, 3) := by decide +kernel
theorem hd_X3_recognizes : cu_hd yX3_recognizes 1 := by decide +kernel
theorem k_659 : (.code yX3_recognizes cX3_recognizes 6 (some .boolean) : Cond) ∈ cu_G := cu_mem 659 (by decide +kernel) (by decide +kernel)
theorem k_656 : (.methodLink RX8 239 yX3_recognizes : Cond) ∈ cu_G := cu_mem 656 (by decide +kernel) (by decide +kernel)
theorem k_657 : (.instanceMethod yX3_recognizes : Cond) ∈ cu_G := cu_mem 657 (by decide +kernel) (by decide +kernel)
theorem k_658 : (.selects RX3 yX3_recognizes yX3_recognizes : Cond) ∈ cu_G := cu_mem 658 (by decide +kernel) (by decide +kernel)
theorem d_X8_drawn_54 : decode cX8_drawn 54 = .ok (.ifCond .eq 6, 3) := by decide +kernel
theorem d_X8_drawn_60 : decode cX8_drawn 60 = .ok (.iinc 3 1, 3) := by decide +kernel
theorem d_X8_drawn_63 : decode cX8_drawn 63 = .ok (.goto (-45), 3) := by decide +kernel
theorem d_X6_look_0 : decode cX6_look 0 = .ok (.iconst 0, 1) := by decide +kernel
theorem d_X6_look_1 : decode cX6_look 1 = .ok (.istore_n 2, 1) := by decide +kernel
theorem d_X6_look_2 : decode cX6_look 2 = .ok (.iload_n 2, 1) := by decide +kernel
theorem d_X6_look_3 : decode cX6_look 3 = .ok (.bipush 12, 2) := by decide +kernel
theorem d_X6_look_5 : decode cX6_look 5 = .ok (.if_icmp .ge 86, 3) := by decide +kernel
theorem d_X6_look_91 : decode cX6_look 91 = .ok (.return_, 1) := by decide +kernel
theorem d_X6_look_8 : decode cX6_look 8 = .ok (.aload_n 1, 1) := by decide +kernel
theorem d_X6_look_9 : decode cX6_look 9 = .ok (.iload_n 2, 1) := by decide +kernel
theorem d_X6_look_10 : decode cX6_look 10 = .ok (.invokevirtual 31, 3) := by decide +kernel
theorem hd_X3_counts : cu_hd yX3_counts 1 := by decide +kernel
theorem k_329 : (.code yX3_counts cX3_counts 2 (some .boolean) : Cond) ∈ cu_G := cu_mem 329 (by decide +kernel) (by decide +kernel)
theorem k_473 : (.methodLink RX6 31 yX3_counts : Cond) ∈ cu_G := cu_mem 473 (by decide +kernel) (by decide +kernel)
theorem k_327 : (.instanceMethod yX3_counts : Cond) ∈ cu_G := cu_mem 327 (by decide +kernel) (by decide +kernel)
theorem k_328 : (.selects RX3 yX3_counts yX3_counts : Cond) ∈ cu_G := cu_mem 328 (by decide +kernel) (by decide +kernel)
theorem d_X6_look_13 : decode cX6_look 13 = .ok (.ifCond .eq 12, 3) := by decide +kernel
theorem d_X6_look_25 : decode cX6_look 25 = .ok (.iconst 0, 1) := by decide +kernel
theorem d_X6_look_26 : decode cX6_look 26 = .ok (.istore_n 3, 1) := by decide +kernel
theorem d_X6_look_27 : decode cX6_look 27 = .ok (.aload_n 1, 1) := by decide +kernel
theorem d_X6_look_28 : decode cX6_look 28 = .ok (.iload_n 2, 1) := by decide +kernel
theorem d_X6_look_29 : decode cX6_look 29 = .ok (.invokevirtual 31, 3) := by decide +kernel
theorem d_X6_look_32 : decode cX6_look 32 = .ok (.ifCond .eq 11, 3) := by decide +kernel
theorem d_X6_look_43 : decode cX6_look 43 = .ok (.iconst 0, 1) := by decide +kernel
theorem d_X6_look_44 : decode cX6_look 44 = .ok (.istore 4, 2) := by decide +kernel
theorem d_X6_look_46 : decode cX6_look 46 = .ok (.iload_n 3, 1) := by decide +kernel
theorem d_X6_look_47 : decode cX6_look 47 = .ok (.aload_n 0, 1) := by decide +kernel
theorem d_X6_look_48 : decode cX6_look 48 = .ok (.getfield 9, 3) := by decide +kernel
theorem d_X6_look_51 : decode cX6_look 51 = .ok (.iload_n 2, 1) := by decide +kernel
theorem d_X6_look_52 : decode cX6_look 52 = .ok (.iaload, 1) := by decide +kernel
theorem d_X6_look_53 : decode cX6_look 53 = .ok (.if_icmp .ne 14, 3) := by decide +kernel
theorem d_X6_look_56 : decode cX6_look 56 = .ok (.iload 4, 2) := by decide +kernel
theorem d_X6_look_58 : decode cX6_look 58 = .ok (.aload_n 0, 1) := by decide +kernel
theorem d_X6_look_59 : decode cX6_look 59 = .ok (.getfield 15, 3) := by decide +kernel
theorem d_X6_look_62 : decode cX6_look 62 = .ok (.iload_n 2, 1) := by decide +kernel
theorem d_X6_look_63 : decode cX6_look 63 = .ok (.iaload, 1) := by decide +kernel
theorem d_X6_look_64 : decode cX6_look 64 = .ok (.if_icmp .eq 21, 3) := by decide +kernel
theorem d_X6_look_85 : decode cX6_look 85 = .ok (.iinc 2 1, 3) := by decide +kernel
theorem d_X6_look_88 : decode cX6_look 88 = .ok (.goto (-86), 3) := by decide +kernel
theorem d_X8_surveyNow_0 : decode cX8_surveyNow 0 = .ok (.aload_n 0, 1) := by decide +kernel
theorem d_X8_surveyNow_1 : decode cX8_surveyNow 1 = .ok (.getfield 182, 3) := by decide +kernel
theorem k_187 : (.fieldLink RX8 182 "CommonUnits" "survey" "LCommonUnits$Survey;" : Cond) ∈ cu_G := cu_mem 187 (by decide +kernel) (by decide +kernel)
theorem d_X8_surveyNow_4 : decode cX8_surveyNow 4 = .ok (.ifnonnull 14, 3) := by decide +kernel
theorem d_X8_surveyNow_7 : decode cX8_surveyNow 7 = .ok (.aload_n 0, 1) := by decide +kernel
theorem d_X8_surveyNow_8 : decode cX8_surveyNow 8 = .ok (.new 163, 3) := by decide +kernel
theorem k_425 : (.classLink RX8 163 RX6 : Cond) ∈ cu_G := cu_mem 425 (by decide +kernel) (by decide +kernel)
theorem k_426 : (.instantiable RX6 11 : Cond) ∈ cu_G := cu_mem 426 (by decide +kernel) (by decide +kernel)
theorem k_53 : (.initialized RX6 : Cond) ∈ cu_G := cu_mem 53 (by decide +kernel) (by decide +kernel)
theorem d_X8_surveyNow_11 : decode cX8_surveyNow 11 = .ok (.dup, 1) := by decide +kernel
theorem d_X8_surveyNow_12 : decode cX8_surveyNow 12 = .ok (.invokespecial 186, 3) := by decide +kernel
theorem hd_X6_init : cu_hd yX6_init 0 := by decide +kernel
theorem k_429 : (.code yX6_init cX6_init 1 none : Cond) ∈ cu_G := cu_mem 429 (by decide +kernel) (by decide +kernel)
theorem k_428 : (.instanceMethod yX6_init : Cond) ∈ cu_G := cu_mem 428 (by decide +kernel) (by decide +kernel)
theorem d_X8_surveyNow_15 : decode cX8_surveyNow 15 = .ok (.putfield 182, 3) := by decide +kernel
theorem d_X8_surveyNow_18 : decode cX8_surveyNow 18 = .ok (.aload_n 0, 1) := by decide +kernel
theorem d_X8_surveyNow_19 : decode cX8_surveyNow 19 = .ok (.getfield 182, 3) := by decide +kernel
theorem d_X8_surveyNow_22 : decode cX8_surveyNow 22 = .ok (.aload_n 0, 1) := by decide +kernel
theorem d_X8_surveyNow_23 : decode cX8_surveyNow 23 = .ok (.getfield 19, 3) := by decide +kernel
theorem d_X8_surveyNow_26 : decode cX8_surveyNow 26 = .ok (.invokevirtual 187, 3) := by decide +kernel
theorem hd_X6_look : cu_hd yX6_look 1 := by decide +kernel
theorem k_472 : (.code yX6_look cX6_look 5 none : Cond) ∈ cu_G := cu_mem 472 (by decide +kernel) (by decide +kernel)
theorem k_469 : (.methodLink RX8 187 yX6_look : Cond) ∈ cu_G := cu_mem 469 (by decide +kernel) (by decide +kernel)
theorem k_470 : (.instanceMethod yX6_look : Cond) ∈ cu_G := cu_mem 470 (by decide +kernel) (by decide +kernel)
theorem k_471 : (.selects RX6 yX6_look yX6_look : Cond) ∈ cu_G := cu_mem 471 (by decide +kernel) (by decide +kernel)
theorem d_X8_surveyNow_29 : decode cX8_surveyNow 29 = .ok (.aload_n 0, 1) := by decide +kernel
theorem d_X8_surveyNow_30 : decode cX8_surveyNow 30 = .ok (.getfield 182, 3) := by decide +kernel
theorem d_X8_surveyNow_33 : decode cX8_surveyNow 33 = .ok (.areturn, 1) := by decide +kernel
theorem d_X2_isUnit_0 : decode cX2_isUnit 0 = .ok (.iload_n 0, 1) := by decide +kernel
theorem d_X2_isUnit_1 : decode cX2_isUnit 1 = .ok (.iconst 1, 1) := by decide +kernel
theorem d_X2_isUnit_2 : decode cX2_isUnit 2 = .ok (.if_icmp .lt 14, 3) := by decide +kernel
theorem d_X2_isUnit_16 : decode cX2_isUnit 16 = .ok (.iconst 0, 1) := by decide +kernel
theorem d_X2_isUnit_17 : decode cX2_isUnit 17 = .ok (.ireturn, 1) := by decide +kernel
theorem d_X2_isUnit_5 : decode cX2_isUnit 5 = .ok (.iload_n 0, 1) := by decide +kernel
theorem d_X2_isUnit_6 : decode cX2_isUnit 6 = .ok (.sipush 999, 3) := by decide +kernel
theorem d_X2_isUnit_9 : decode cX2_isUnit 9 = .ok (.if_icmp .gt 7, 3) := by decide +kernel
theorem d_X2_isUnit_12 : decode cX2_isUnit 12 = .ok (.iconst 1, 1) := by decide +kernel
theorem d_X2_isUnit_13 : decode cX2_isUnit 13 = .ok (.goto 4, 3) := by decide +kernel
theorem d_X6_keyOf_0 : decode cX6_keyOf 0 = .ok (.iload_n 1, 1) := by decide +kernel
theorem d_X6_keyOf_1 : decode cX6_keyOf 1 = .ok (.invokestatic 55, 3) := by decide +kernel
theorem hd_X2_isUnit : cu_hd yX2_isUnit 1 := by decide +kernel
theorem k_398 : (.code yX2_isUnit cX2_isUnit 1 (some .boolean) : Cond) ∈ cu_G := cu_mem 398 (by decide +kernel) (by decide +kernel)
theorem k_50 : (.initialized RX2 : Cond) ∈ cu_G := cu_mem 50 (by decide +kernel) (by decide +kernel)
theorem k_490 : (.methodLink RX6 55 yX2_isUnit : Cond) ∈ cu_G := cu_mem 490 (by decide +kernel) (by decide +kernel)
theorem k_397 : (.static yX2_isUnit : Cond) ∈ cu_G := cu_mem 397 (by decide +kernel) (by decide +kernel)
theorem d_X6_keyOf_4 : decode cX6_keyOf 4 = .ok (.ifCond .eq 22, 3) := by decide +kernel
theorem d_X6_keyOf_7 : decode cX6_keyOf 7 = .ok (.aload_n 0, 1) := by decide +kernel
theorem d_X6_keyOf_8 : decode cX6_keyOf 8 = .ok (.getfield 21, 3) := by decide +kernel
theorem d_X6_keyOf_11 : decode cX6_keyOf 11 = .ok (.iload_n 1, 1) := by decide +kernel
theorem d_X6_keyOf_12 : decode cX6_keyOf 12 = .ok (.iaload, 1) := by decide +kernel
theorem d_X6_keyOf_13 : decode cX6_keyOf 13 = .ok (.sipush 1000, 3) := by decide +kernel
theorem d_X6_keyOf_16 : decode cX6_keyOf 16 = .ok (.imul, 1) := by decide +kernel
theorem d_X6_keyOf_17 : decode cX6_keyOf 17 = .ok (.sipush 999, 3) := by decide +kernel
theorem d_X6_keyOf_20 : decode cX6_keyOf 20 = .ok (.iadd, 1) := by decide +kernel
theorem d_X6_keyOf_21 : decode cX6_keyOf 21 = .ok (.iload_n 1, 1) := by decide +kernel
theorem d_X6_keyOf_22 : decode cX6_keyOf 22 = .ok (.isub, 1) := by decide +kernel
theorem d_X6_keyOf_23 : decode cX6_keyOf 23 = .ok (.goto 4, 3) := by decide +kernel
theorem d_X6_keyOf_27 : decode cX6_keyOf 27 = .ok (.ireturn, 1) := by decide +kernel
theorem d_X6_rankOf_0 : decode cX6_rankOf 0 = .ok (.iconst 0, 1) := by decide +kernel
theorem d_X6_rankOf_1 : decode cX6_rankOf 1 = .ok (.istore_n 2, 1) := by decide +kernel
theorem d_X6_rankOf_2 : decode cX6_rankOf 2 = .ok (.aload_n 0, 1) := by decide +kernel
theorem d_X6_rankOf_3 : decode cX6_rankOf 3 = .ok (.iload_n 1, 1) := by decide +kernel
theorem d_X6_rankOf_4 : decode cX6_rankOf 4 = .ok (.invokevirtual 52, 3) := by decide +kernel
theorem hd_X6_keyOf : cu_hd yX6_keyOf 1 := by decide +kernel
theorem k_489 : (.code yX6_keyOf cX6_keyOf 2 (some .int) : Cond) ∈ cu_G := cu_mem 489 (by decide +kernel) (by decide +kernel)
theorem k_486 : (.methodLink RX6 52 yX6_keyOf : Cond) ∈ cu_G := cu_mem 486 (by decide +kernel) (by decide +kernel)
theorem k_488 : (.instanceMethod yX6_keyOf : Cond) ∈ cu_G := cu_mem 488 (by decide +kernel) (by decide +kernel)
theorem k_9 : (.selects RX6 yX6_keyOf yX6_keyOf : Cond) ∈ cu_G := cu_mem 9 (by decide +kernel) (by decide +kernel)
theorem d_X6_rankOf_7 : decode cX6_rankOf 7 = .ok (.istore_n 3, 1) := by decide +kernel
theorem d_X6_rankOf_8 : decode cX6_rankOf 8 = .ok (.iconst 1, 1) := by decide +kernel
theorem d_X6_rankOf_9 : decode cX6_rankOf 9 = .ok (.istore 4, 2) := by decide +kernel
theorem d_X6_rankOf_11 : decode cX6_rankOf 11 = .ok (.iload 4, 2) := by decide +kernel
theorem d_X6_rankOf_13 : decode cX6_rankOf 13 = .ok (.sipush 999, 3) := by decide +kernel
theorem d_X6_rankOf_16 : decode cX6_rankOf 16 = .ok (.if_icmp .gt 22, 3) := by decide +kernel
theorem d_X6_rankOf_38 : decode cX6_rankOf 38 = .ok (.iload_n 2, 1) := by decide +kernel
theorem d_X6_rankOf_39 : decode cX6_rankOf 39 = .ok (.ireturn, 1) := by decide +kernel
theorem d_X6_rankOf_19 : decode cX6_rankOf 19 = .ok (.aload_n 0, 1) := by decide +kernel
theorem d_X6_rankOf_20 : decode cX6_rankOf 20 = .ok (.iload 4, 2) := by decide +kernel
theorem d_X6_rankOf_22 : decode cX6_rankOf 22 = .ok (.invokevirtual 52, 3) := by decide +kernel
theorem d_X6_rankOf_25 : decode cX6_rankOf 25 = .ok (.iload_n 3, 1) := by decide +kernel
theorem d_X6_rankOf_26 : decode cX6_rankOf 26 = .ok (.if_icmp .ge 6, 3) := by decide +kernel
theorem d_X6_rankOf_32 : decode cX6_rankOf 32 = .ok (.iinc 4 1, 3) := by decide +kernel
theorem d_X6_rankOf_35 : decode cX6_rankOf 35 = .ok (.goto (-24), 3) := by decide +kernel
theorem d_X6_rankOf_29 : decode cX6_rankOf 29 = .ok (.iinc 2 1, 3) := by decide +kernel
theorem d_J6_bitCount_0f7a4_0 : decode cJ6_bitCount_0f7a4 0 = .ok (.iload_n 0, 1) := by decide +kernel
theorem d_J6_bitCount_0f7a4_1 : decode cJ6_bitCount_0f7a4 1 = .ok (.iload_n 0, 1) := by decide +kernel
theorem d_J6_bitCount_0f7a4_2 : decode cJ6_bitCount_0f7a4 2 = .ok (.iconst 1, 1) := by decide +kernel
theorem d_J6_bitCount_0f7a4_3 : decode cJ6_bitCount_0f7a4 3 = .ok (.iushr, 1) := by decide +kernel
theorem d_J6_bitCount_0f7a4_4 : decode cJ6_bitCount_0f7a4 4 = .ok (.ldc_w 265, 3) := by decide +kernel
theorem k_334 : (.constant RJ6 265 1431655765 : Cond) ∈ cu_G := cu_mem 334 (by decide +kernel) (by decide +kernel)
theorem d_J6_bitCount_0f7a4_7 : decode cJ6_bitCount_0f7a4 7 = .ok (.iand, 1) := by decide +kernel
theorem d_J6_bitCount_0f7a4_8 : decode cJ6_bitCount_0f7a4 8 = .ok (.isub, 1) := by decide +kernel
theorem d_J6_bitCount_0f7a4_9 : decode cJ6_bitCount_0f7a4 9 = .ok (.istore_n 0, 1) := by decide +kernel
theorem d_J6_bitCount_0f7a4_10 : decode cJ6_bitCount_0f7a4 10 = .ok (.iload_n 0, 1) := by decide +kernel
theorem d_J6_bitCount_0f7a4_11 : decode cJ6_bitCount_0f7a4 11 = .ok (.ldc_w 266, 3) := by decide +kernel
theorem k_335 : (.constant RJ6 266 858993459 : Cond) ∈ cu_G := cu_mem 335 (by decide +kernel) (by decide +kernel)
theorem d_J6_bitCount_0f7a4_14 : decode cJ6_bitCount_0f7a4 14 = .ok (.iand, 1) := by decide +kernel
theorem d_J6_bitCount_0f7a4_15 : decode cJ6_bitCount_0f7a4 15 = .ok (.iload_n 0, 1) := by decide +kernel
theorem d_J6_bitCount_0f7a4_16 : decode cJ6_bitCount_0f7a4 16 = .ok (.iconst 2, 1) := by decide +kernel
theorem d_J6_bitCount_0f7a4_17 : decode cJ6_bitCount_0f7a4 17 = .ok (.iushr, 1) := by decide +kernel
theorem d_J6_bitCount_0f7a4_18 : decode cJ6_bitCount_0f7a4 18 = .ok (.ldc_w 266, 3) := by decide +kernel
theorem d_J6_bitCount_0f7a4_21 : decode cJ6_bitCount_0f7a4 21 = .ok (.iand, 1) := by decide +kernel
theorem d_J6_bitCount_0f7a4_22 : decode cJ6_bitCount_0f7a4 22 = .ok (.iadd, 1) := by decide +kernel
theorem d_J6_bitCount_0f7a4_23 : decode cJ6_bitCount_0f7a4 23 = .ok (.istore_n 0, 1) := by decide +kernel
theorem d_J6_bitCount_0f7a4_24 : decode cJ6_bitCount_0f7a4 24 = .ok (.iload_n 0, 1) := by decide +kernel
theorem d_J6_bitCount_0f7a4_25 : decode cJ6_bitCount_0f7a4 25 = .ok (.iload_n 0, 1) := by decide +kernel
theorem d_J6_bitCount_0f7a4_26 : decode cJ6_bitCount_0f7a4 26 = .ok (.iconst 4, 1) := by decide +kernel
theorem d_J6_bitCount_0f7a4_27 : decode cJ6_bitCount_0f7a4 27 = .ok (.iushr, 1) := by decide +kernel
theorem d_J6_bitCount_0f7a4_28 : decode cJ6_bitCount_0f7a4 28 = .ok (.iadd, 1) := by decide +kernel
theorem d_J6_bitCount_0f7a4_29 : decode cJ6_bitCount_0f7a4 29 = .ok (.ldc_w 267, 3) := by decide +kernel
theorem k_336 : (.constant RJ6 267 252645135 : Cond) ∈ cu_G := cu_mem 336 (by decide +kernel) (by decide +kernel)
theorem d_J6_bitCount_0f7a4_32 : decode cJ6_bitCount_0f7a4 32 = .ok (.iand, 1) := by decide +kernel
theorem d_J6_bitCount_0f7a4_33 : decode cJ6_bitCount_0f7a4 33 = .ok (.istore_n 0, 1) := by decide +kernel
theorem d_J6_bitCount_0f7a4_34 : decode cJ6_bitCount_0f7a4 34 = .ok (.iload_n 0, 1) := by decide +kernel
theorem d_J6_bitCount_0f7a4_35 : decode cJ6_bitCount_0f7a4 35 = .ok (.iload_n 0, 1) := by decide +kernel
theorem d_J6_bitCount_0f7a4_36 : decode cJ6_bitCount_0f7a4 36 = .ok (.bipush 8, 2) := by decide +kernel
theorem d_J6_bitCount_0f7a4_38 : decode cJ6_bitCount_0f7a4 38 = .ok (.iushr, 1) := by decide +kernel
theorem d_J6_bitCount_0f7a4_39 : decode cJ6_bitCount_0f7a4 39 = .ok (.iadd, 1) := by decide +kernel
theorem d_J6_bitCount_0f7a4_40 : decode cJ6_bitCount_0f7a4 40 = .ok (.istore_n 0, 1) := by decide +kernel
theorem d_J6_bitCount_0f7a4_41 : decode cJ6_bitCount_0f7a4 41 = .ok (.iload_n 0, 1) := by decide +kernel
theorem d_J6_bitCount_0f7a4_42 : decode cJ6_bitCount_0f7a4 42 = .ok (.iload_n 0, 1) := by decide +kernel
theorem d_J6_bitCount_0f7a4_43 : decode cJ6_bitCount_0f7a4 43 = .ok (.bipush 16, 2) := by decide +kernel
theorem d_J6_bitCount_0f7a4_45 : decode cJ6_bitCount_0f7a4 45 = .ok (.iushr, 1) := by decide +kernel
theorem d_J6_bitCount_0f7a4_46 : decode cJ6_bitCount_0f7a4 46 = .ok (.iadd, 1) := by decide +kernel
theorem d_J6_bitCount_0f7a4_47 : decode cJ6_bitCount_0f7a4 47 = .ok (.istore_n 0, 1) := by decide +kernel
theorem d_J6_bitCount_0f7a4_48 : decode cJ6_bitCount_0f7a4 48 = .ok (.iload_n 0, 1) := by decide +kernel
theorem d_J6_bitCount_0f7a4_49 : decode cJ6_bitCount_0f7a4 49 = .ok (.bipush 63, 2) := by decide +kernel
theorem d_J6_bitCount_0f7a4_51 : decode cJ6_bitCount_0f7a4 51 = .ok (.iand, 1) := by decide +kernel
theorem d_J6_bitCount_0f7a4_52 : decode cJ6_bitCount_0f7a4 52 = .ok (.ireturn, 1) := by decide +kernel
theorem d_X8_unit_0 : decode cX8_unit 0 = .ok (.iload_n 1, 1) := by decide +kernel
theorem d_X8_unit_1 : decode cX8_unit 1 = .ok (.invokestatic 135, 3) := by decide +kernel
theorem k_396 : (.methodLink RX8 135 yX2_isUnit : Cond) ∈ cu_G := cu_mem 396 (by decide +kernel) (by decide +kernel)
theorem d_X8_unit_4 : decode cX8_unit 4 = .ok (.ifCond .ne 6, 3) := by decide +kernel
theorem d_X8_unit_7 : decode cX8_unit 7 = .ok (.bipush (-2), 2) := by decide +kernel
theorem d_X8_unit_9 : decode cX8_unit 9 = .ok (.ireturn, 1) := by decide +kernel
theorem d_X8_unit_10 : decode cX8_unit 10 = .ok (.iload_n 2, 1) := by decide +kernel
theorem d_X8_unit_11 : decode cX8_unit 11 = .ok (.tableswitch 76 0 3 #[29, 41, 50, 67], 29) := by decide +kernel
theorem d_X8_unit_40 : decode cX8_unit 40 = .ok (.aload_n 0, 1) := by decide +kernel
theorem d_X8_unit_41 : decode cX8_unit 41 = .ok (.getfield 19, 3) := by decide +kernel
theorem d_X8_unit_44 : decode cX8_unit 44 = .ok (.iload_n 1, 1) := by decide +kernel
theorem d_X8_unit_45 : decode cX8_unit 45 = .ok (.invokevirtual 155, 3) := by decide +kernel
theorem hd_X3_explainedBy : cu_hd yX3_explainedBy 1 := by decide +kernel
theorem k_420 : (.code yX3_explainedBy cX3_explainedBy 4 (some .int) : Cond) ∈ cu_G := cu_mem 420 (by decide +kernel) (by decide +kernel)
theorem k_417 : (.methodLink RX8 155 yX3_explainedBy : Cond) ∈ cu_G := cu_mem 417 (by decide +kernel) (by decide +kernel)
theorem k_418 : (.instanceMethod yX3_explainedBy : Cond) ∈ cu_G := cu_mem 418 (by decide +kernel) (by decide +kernel)
theorem k_419 : (.selects RX3 yX3_explainedBy yX3_explainedBy : Cond) ∈ cu_G := cu_mem 419 (by decide +kernel) (by decide +kernel)
theorem d_X8_unit_48 : decode cX8_unit 48 = .ok (.invokestatic 109, 3) := by decide +kernel
theorem hd_J6_bitCount_0f7a4 : cu_hd yJ6_bitCount_0f7a4 1 := by decide +kernel
theorem k_333 : (.code yJ6_bitCount_0f7a4 cJ6_bitCount_0f7a4 1 (some .int) : Cond) ∈ cu_G := cu_mem 333 (by decide +kernel) (by decide +kernel)
theorem k_51 : (.initialized RJ6 : Cond) ∈ cu_G := cu_mem 51 (by decide +kernel) (by decide +kernel)
theorem k_331 : (.methodLink RX8 109 yJ6_bitCount_0f7a4 : Cond) ∈ cu_G := cu_mem 331 (by decide +kernel) (by decide +kernel)
theorem k_332 : (.static yJ6_bitCount_0f7a4 : Cond) ∈ cu_G := cu_mem 332 (by decide +kernel) (by decide +kernel)
theorem d_X8_unit_51 : decode cX8_unit 51 = .ok (.ireturn, 1) := by decide +kernel
theorem d_X8_unit_52 : decode cX8_unit 52 = .ok (.aload_n 0, 1) := by decide +kernel
theorem d_X8_unit_53 : decode cX8_unit 53 = .ok (.getfield 19, 3) := by decide +kernel
theorem d_X8_unit_56 : decode cX8_unit 56 = .ok (.iload_n 1, 1) := by decide +kernel
theorem d_X8_unit_57 : decode cX8_unit 57 = .ok (.invokevirtual 155, 3) := by decide +kernel
theorem d_X8_unit_60 : decode cX8_unit 60 = .ok (.ireturn, 1) := by decide +kernel
theorem d_X8_unit_61 : decode cX8_unit 61 = .ok (.aload_n 0, 1) := by decide +kernel
theorem d_X8_unit_62 : decode cX8_unit 62 = .ok (.getfield 19, 3) := by decide +kernel
theorem d_X8_unit_65 : decode cX8_unit 65 = .ok (.aload_n 0, 1) := by decide +kernel
theorem d_X8_unit_66 : decode cX8_unit 66 = .ok (.getfield 19, 3) := by decide +kernel
theorem d_X8_unit_69 : decode cX8_unit 69 = .ok (.iload_n 1, 1) := by decide +kernel
theorem d_X8_unit_70 : decode cX8_unit 70 = .ok (.invokevirtual 155, 3) := by decide +kernel
theorem d_X8_unit_73 : decode cX8_unit 73 = .ok (.iload_n 1, 1) := by decide +kernel
theorem d_X8_unit_74 : decode cX8_unit 74 = .ok (.invokevirtual 114, 3) := by decide +kernel
theorem hd_X3_lossesOf : cu_hd yX3_lossesOf 2 := by decide +kernel
theorem k_340 : (.code yX3_lossesOf cX3_lossesOf 5 (some .int) : Cond) ∈ cu_G := cu_mem 340 (by decide +kernel) (by decide +kernel)
theorem k_337 : (.methodLink RX8 114 yX3_lossesOf : Cond) ∈ cu_G := cu_mem 337 (by decide +kernel) (by decide +kernel)
theorem k_338 : (.instanceMethod yX3_lossesOf : Cond) ∈ cu_G := cu_mem 338 (by decide +kernel) (by decide +kernel)
theorem k_339 : (.selects RX3 yX3_lossesOf yX3_lossesOf : Cond) ∈ cu_G := cu_mem 339 (by decide +kernel) (by decide +kernel)
theorem d_X8_unit_77 : decode cX8_unit 77 = .ok (.ireturn, 1) := by decide +kernel
theorem d_X8_unit_78 : decode cX8_unit 78 = .ok (.aload_n 0, 1) := by decide +kernel
theorem d_X8_unit_79 : decode cX8_unit 79 = .ok (.invokevirtual 158, 3) := by decide +kernel
theorem hd_X8_surveyNow : cu_hd yX8_surveyNow 0 := by decide +kernel
theorem k_424 : (.code yX8_surveyNow cX8_surveyNow 1 (some (.object "CommonUnits$Survey")) : Cond) ∈ cu_G := cu_mem 424 (by decide +kernel) (by decide +kernel)
theorem k_421 : (.methodLink RX8 158 yX8_surveyNow : Cond) ∈ cu_G := cu_mem 421 (by decide +kernel) (by decide +kernel)
theorem k_423 : (.instanceMethod yX8_surveyNow : Cond) ∈ cu_G := cu_mem 423 (by decide +kernel) (by decide +kernel)
theorem k_7 : (.selects RX8 yX8_surveyNow yX8_surveyNow : Cond) ∈ cu_G := cu_mem 7 (by decide +kernel) (by decide +kernel)
theorem d_X8_unit_82 : decode cX8_unit 82 = .ok (.iload_n 1, 1) := by decide +kernel
theorem d_X8_unit_83 : decode cX8_unit 83 = .ok (.invokevirtual 162, 3) := by decide +kernel
theorem hd_X6_rankOf : cu_hd yX6_rankOf 1 := by decide +kernel
theorem k_485 : (.code yX6_rankOf cX6_rankOf 5 (some .int) : Cond) ∈ cu_G := cu_mem 485 (by decide +kernel) (by decide +kernel)
theorem k_482 : (.methodLink RX8 162 yX6_rankOf : Cond) ∈ cu_G := cu_mem 482 (by decide +kernel) (by decide +kernel)
theorem k_483 : (.instanceMethod yX6_rankOf : Cond) ∈ cu_G := cu_mem 483 (by decide +kernel) (by decide +kernel)
theorem k_484 : (.selects RX6 yX6_rankOf yX6_rankOf : Cond) ∈ cu_G := cu_mem 484 (by decide +kernel) (by decide +kernel)
theorem d_X8_unit_86 : decode cX8_unit 86 = .ok (.ireturn, 1) := by decide +kernel
theorem d_X8_unit_87 : decode cX8_unit 87 = .ok (.bipush (-2), 2) := by decide +kernel
theorem d_X8_unit_89 : decode cX8_unit 89 = .ok (.ireturn, 1) := by decide +kernel
theorem d_X6_countedColumns_0 : decode cX6_countedColumns 0 = .ok (.iconst 0, 1) := by decide +kernel
theorem d_X6_countedColumns_1 : decode cX6_countedColumns 1 = .ok (.istore_n 1, 1) := by decide +kernel
theorem d_X6_countedColumns_2 : decode cX6_countedColumns 2 = .ok (.iconst 0, 1) := by decide +kernel
theorem d_X6_countedColumns_3 : decode cX6_countedColumns 3 = .ok (.istore_n 2, 1) := by decide +kernel
theorem d_X6_countedColumns_4 : decode cX6_countedColumns 4 = .ok (.iload_n 2, 1) := by decide +kernel
theorem d_X6_countedColumns_5 : decode cX6_countedColumns 5 = .ok (.bipush 12, 2) := by decide +kernel
theorem d_X6_countedColumns_7 : decode cX6_countedColumns 7 = .ok (.if_icmp .ge 21, 3) := by decide +kernel
theorem d_X6_countedColumns_28 : decode cX6_countedColumns 28 = .ok (.iload_n 1, 1) := by decide +kernel
theorem d_X6_countedColumns_29 : decode cX6_countedColumns 29 = .ok (.ireturn, 1) := by decide +kernel
theorem d_X6_countedColumns_10 : decode cX6_countedColumns 10 = .ok (.aload_n 0, 1) := by decide +kernel
theorem d_X6_countedColumns_11 : decode cX6_countedColumns 11 = .ok (.getfield 9, 3) := by decide +kernel
theorem d_X6_countedColumns_14 : decode cX6_countedColumns 14 = .ok (.iload_n 2, 1) := by decide +kernel
theorem d_X6_countedColumns_15 : decode cX6_countedColumns 15 = .ok (.iaload, 1) := by decide +kernel
theorem d_X6_countedColumns_16 : decode cX6_countedColumns 16 = .ok (.ifCond .le 6, 3) := by decide +kernel
theorem d_X6_countedColumns_22 : decode cX6_countedColumns 22 = .ok (.iinc 2 1, 3) := by decide +kernel
theorem d_X6_countedColumns_25 : decode cX6_countedColumns 25 = .ok (.goto (-21), 3) := by decide +kernel
theorem d_X6_width_0 : decode cX6_width 0 = .ok (.iconst 0, 1) := by decide +kernel
theorem d_X6_width_1 : decode cX6_width 1 = .ok (.istore_n 1, 1) := by decide +kernel
theorem d_X6_width_2 : decode cX6_width 2 = .ok (.iconst 0, 1) := by decide +kernel
theorem d_X6_width_3 : decode cX6_width 3 = .ok (.istore_n 2, 1) := by decide +kernel
theorem d_X6_width_4 : decode cX6_width 4 = .ok (.iload_n 2, 1) := by decide +kernel
theorem d_X6_width_5 : decode cX6_width 5 = .ok (.bipush 12, 2) := by decide +kernel
theorem d_X6_width_7 : decode cX6_width 7 = .ok (.if_icmp .ge 22, 3) := by decide +kernel
theorem d_X6_width_29 : decode cX6_width 29 = .ok (.iload_n 1, 1) := by decide +kernel
theorem d_X6_width_30 : decode cX6_width 30 = .ok (.ireturn, 1) := by decide +kernel
theorem d_X6_width_10 : decode cX6_width 10 = .ok (.aload_n 0, 1) := by decide +kernel
theorem d_X6_width_11 : decode cX6_width 11 = .ok (.getfield 9, 3) := by decide +kernel
theorem d_X6_width_14 : decode cX6_width 14 = .ok (.iload_n 2, 1) := by decide +kernel
theorem d_X6_width_15 : decode cX6_width 15 = .ok (.iaload, 1) := by decide +kernel
theorem d_X6_width_16 : decode cX6_width 16 = .ok (.ifCond .le 7, 3) := by decide +kernel
theorem d_X6_width_23 : decode cX6_width 23 = .ok (.iinc 2 1, 3) := by decide +kernel
theorem d_X6_width_26 : decode cX6_width 26 = .ok (.goto (-22), 3) := by decide +kernel
theorem d_X6_bestUnit_0 : decode cX6_bestUnit 0 = .ok (.iconst 1, 1) := by decide +kernel
theorem d_X6_bestUnit_1 : decode cX6_bestUnit 1 = .ok (.istore_n 1, 1) := by decide +kernel
theorem d_X6_bestUnit_2 : decode cX6_bestUnit 2 = .ok (.iconst 2, 1) := by decide +kernel
theorem d_X6_bestUnit_3 : decode cX6_bestUnit 3 = .ok (.istore_n 2, 1) := by decide +kernel
theorem d_X6_bestUnit_4 : decode cX6_bestUnit 4 = .ok (.iload_n 2, 1) := by decide +kernel
theorem d_X6_bestUnit_5 : decode cX6_bestUnit 5 = .ok (.sipush 999, 3) := by decide +kernel
theorem d_X6_bestUnit_8 : decode cX6_bestUnit 8 = .ok (.if_icmp .gt 26, 3) := by decide +kernel
theorem d_X6_bestUnit_34 : decode cX6_bestUnit 34 = .ok (.iload_n 1, 1) := by decide +kernel
theorem d_X6_bestUnit_35 : decode cX6_bestUnit 35 = .ok (.ireturn, 1) := by decide +kernel
theorem d_X6_bestUnit_11 : decode cX6_bestUnit 11 = .ok (.aload_n 0, 1) := by decide +kernel
theorem d_X6_bestUnit_12 : decode cX6_bestUnit 12 = .ok (.getfield 21, 3) := by decide +kernel
theorem d_X6_bestUnit_15 : decode cX6_bestUnit 15 = .ok (.iload_n 2, 1) := by decide +kernel
theorem d_X6_bestUnit_16 : decode cX6_bestUnit 16 = .ok (.iaload, 1) := by decide +kernel
theorem d_X6_bestUnit_17 : decode cX6_bestUnit 17 = .ok (.aload_n 0, 1) := by decide +kernel
theorem d_X6_bestUnit_18 : decode cX6_bestUnit 18 = .ok (.getfield 21, 3) := by decide +kernel
theorem d_X6_bestUnit_21 : decode cX6_bestUnit 21 = .ok (.iload_n 1, 1) := by decide +kernel
theorem d_X6_bestUnit_22 : decode cX6_bestUnit 22 = .ok (.iaload, 1) := by decide +kernel
theorem d_X6_bestUnit_23 : decode cX6_bestUnit 23 = .ok (.if_icmp .ge 5, 3) := by decide +kernel
theorem d_X6_bestUnit_28 : decode cX6_bestUnit 28 = .ok (.iinc 2 1, 3) := by decide +kernel
theorem d_X6_bestUnit_31 : decode cX6_bestUnit 31 = .ok (.goto (-27), 3) := by decide +kernel
theorem d_X6_jointLack_0 : decode cX6_jointLack 0 = .ok (.iload_n 1, 1) := by decide +kernel
theorem d_X6_jointLack_1 : decode cX6_jointLack 1 = .ok (.bipush 12, 2) := by decide +kernel
theorem d_X6_jointLack_3 : decode cX6_jointLack 3 = .ok (.imul, 1) := by decide +kernel
theorem d_X6_jointLack_4 : decode cX6_jointLack 4 = .ok (.istore 5, 2) := by decide +kernel
theorem d_X6_jointLack_6 : decode cX6_jointLack 6 = .ok (.iload_n 2, 1) := by decide +kernel
theorem d_X6_jointLack_7 : decode cX6_jointLack 7 = .ok (.bipush 12, 2) := by decide +kernel
theorem d_X6_jointLack_9 : decode cX6_jointLack 9 = .ok (.imul, 1) := by decide +kernel
theorem d_X6_jointLack_10 : decode cX6_jointLack 10 = .ok (.istore 6, 2) := by decide +kernel
theorem d_X6_jointLack_12 : decode cX6_jointLack 12 = .ok (.iconst 0, 1) := by decide +kernel
theorem d_X6_jointLack_13 : decode cX6_jointLack 13 = .ok (.istore 7, 2) := by decide +kernel
theorem d_X6_jointLack_15 : decode cX6_jointLack 15 = .ok (.iconst 0, 1) := by decide +kernel
theorem d_X6_jointLack_16 : decode cX6_jointLack 16 = .ok (.istore 8, 2) := by decide +kernel
theorem d_X6_jointLack_18 : decode cX6_jointLack 18 = .ok (.iload 8, 2) := by decide +kernel
theorem d_X6_jointLack_20 : decode cX6_jointLack 20 = .ok (.iload_n 3, 1) := by decide +kernel
theorem d_X6_jointLack_21 : decode cX6_jointLack 21 = .ok (.if_icmp .ge 59, 3) := by decide +kernel
theorem d_X6_jointLack_80 : decode cX6_jointLack 80 = .ok (.iload 7, 2) := by decide +kernel
theorem d_X6_jointLack_82 : decode cX6_jointLack 82 = .ok (.ireturn, 1) := by decide +kernel
theorem d_X6_leastWith_0 : decode cX6_leastWith 0 = .ok (.ldc 97, 2) := by decide +kernel
theorem k_523 : (.constant RX6 97 53248 : Cond) ∈ cu_G := cu_mem 523 (by decide +kernel) (by decide +kernel)
theorem d_X6_leastWith_2 : decode cX6_leastWith 2 = .ok (.istore_n 2, 1) := by decide +kernel
theorem d_X6_leastWith_3 : decode cX6_leastWith 3 = .ok (.aload_n 0, 1) := by decide +kernel
theorem d_X6_leastWith_4 : decode cX6_leastWith 4 = .ok (.invokevirtual 84, 3) := by decide +kernel
theorem hd_X6_width : cu_hd yX6_width 0 := by decide +kernel
theorem k_527 : (.code yX6_width cX6_width 3 (some .int) : Cond) ∈ cu_G := cu_mem 527 (by decide +kernel) (by decide +kernel)
theorem k_524 : (.methodLink RX6 84 yX6_width : Cond) ∈ cu_G := cu_mem 524 (by decide +kernel) (by decide +kernel)
theorem k_526 : (.instanceMethod yX6_width : Cond) ∈ cu_G := cu_mem 526 (by decide +kernel) (by decide +kernel)
theorem k_14 : (.selects RX6 yX6_width yX6_width : Cond) ∈ cu_G := cu_mem 14 (by decide +kernel) (by decide +kernel)
theorem d_X6_leastWith_7 : decode cX6_leastWith 7 = .ok (.istore_n 3, 1) := by decide +kernel
theorem d_X6_leastWith_8 : decode cX6_leastWith 8 = .ok (.iconst 1, 1) := by decide +kernel
theorem d_X6_leastWith_9 : decode cX6_leastWith 9 = .ok (.istore 4, 2) := by decide +kernel
theorem d_X6_leastWith_11 : decode cX6_leastWith 11 = .ok (.iload 4, 2) := by decide +kernel
theorem d_X6_leastWith_13 : decode cX6_leastWith 13 = .ok (.sipush 999, 3) := by decide +kernel
theorem d_X6_leastWith_16 : decode cX6_leastWith 16 = .ok (.if_icmp .gt 29, 3) := by decide +kernel
theorem d_X6_leastWith_19 : decode cX6_leastWith 19 = .ok (.iload 4, 2) := by decide +kernel
theorem d_X6_leastWith_21 : decode cX6_leastWith 21 = .ok (.iload_n 1, 1) := by decide +kernel
theorem d_X6_leastWith_22 : decode cX6_leastWith 22 = .ok (.if_icmp .eq 17, 3) := by decide +kernel
theorem d_X6_leastWith_39 : decode cX6_leastWith 39 = .ok (.iinc 4 1, 3) := by decide +kernel
theorem d_X6_leastWith_42 : decode cX6_leastWith 42 = .ok (.goto (-31), 3) := by decide +kernel
theorem d_X6_leastWith_25 : decode cX6_leastWith 25 = .ok (.iload_n 2, 1) := by decide +kernel
theorem d_X6_leastWith_26 : decode cX6_leastWith 26 = .ok (.aload_n 0, 1) := by decide +kernel
theorem d_X6_leastWith_27 : decode cX6_leastWith 27 = .ok (.iload_n 1, 1) := by decide +kernel
theorem d_X6_leastWith_28 : decode cX6_leastWith 28 = .ok (.iload 4, 2) := by decide +kernel
theorem d_X6_leastWith_30 : decode cX6_leastWith 30 = .ok (.iload_n 3, 1) := by decide +kernel
theorem d_X6_leastWith_31 : decode cX6_leastWith 31 = .ok (.iload_n 2, 1) := by decide +kernel
theorem d_X6_leastWith_32 : decode cX6_leastWith 32 = .ok (.invokevirtual 87, 3) := by decide +kernel
theorem hd_X6_jointLack : cu_hd yX6_jointLack 4 := by decide +kernel
theorem k_531 : (.code yX6_jointLack cX6_jointLack 11 (some .int) : Cond) ∈ cu_G := cu_mem 531 (by decide +kernel) (by decide +kernel)
theorem k_528 : (.methodLink RX6 87 yX6_jointLack : Cond) ∈ cu_G := cu_mem 528 (by decide +kernel) (by decide +kernel)
theorem k_530 : (.instanceMethod yX6_jointLack : Cond) ∈ cu_G := cu_mem 530 (by decide +kernel) (by decide +kernel)
theorem k_15 : (.selects RX6 yX6_jointLack yX6_jointLack : Cond) ∈ cu_G := cu_mem 15 (by decide +kernel) (by decide +kernel)
theorem d_X6_leastWith_35 : decode cX6_leastWith 35 = .ok (.invokestatic 98, 3) := by decide +kernel
theorem k_532 : (.methodLink RX6 98 Lib.Math.min.name : Cond) ∈ cu_G := cu_mem 532 (by decide +kernel) (by decide +kernel)
theorem d_X6_leastWith_38 : decode cX6_leastWith 38 = .ok (.istore_n 2, 1) := by decide +kernel
theorem d_X6_leastWith_45 : decode cX6_leastWith 45 = .ok (.iload_n 2, 1) := by decide +kernel
theorem d_X6_leastWith_46 : decode cX6_leastWith 46 = .ok (.ireturn, 1) := by decide +kernel
theorem d_X6_findUpper_0 : decode cX6_findUpper 0 = .ok (.aload_n 0, 1) := by decide +kernel
theorem d_X6_findUpper_1 : decode cX6_findUpper 1 = .ok (.invokevirtual 84, 3) := by decide +kernel
theorem d_X6_findUpper_4 : decode cX6_findUpper 4 = .ok (.istore_n 3, 1) := by decide +kernel
theorem d_X6_findUpper_5 : decode cX6_findUpper 5 = .ok (.iload_n 1, 1) := by decide +kernel
theorem d_X6_findUpper_6 : decode cX6_findUpper 6 = .ok (.iconst 1, 1) := by decide +kernel
theorem d_X6_findUpper_7 : decode cX6_findUpper 7 = .ok (.iadd, 1) := by decide +kernel
theorem d_X6_findUpper_8 : decode cX6_findUpper 8 = .ok (.istore 4, 2) := by decide +kernel
theorem d_X6_findUpper_10 : decode cX6_findUpper 10 = .ok (.iload 4, 2) := by decide +kernel
theorem d_X6_findUpper_12 : decode cX6_findUpper 12 = .ok (.sipush 999, 3) := by decide +kernel
theorem d_X6_findUpper_15 : decode cX6_findUpper 15 = .ok (.if_icmp .gt 79, 3) := by decide +kernel
theorem d_X6_findUpper_18 : decode cX6_findUpper 18 = .ok (.aload_n 0, 1) := by decide +kernel
theorem d_X6_findUpper_19 : decode cX6_findUpper 19 = .ok (.getfield 77, 3) := by decide +kernel
theorem k_444 : (.fieldLink RX6 77 "CommonUnits$Survey" "pairLack" "I" : Cond) ∈ cu_G := cu_mem 444 (by decide +kernel) (by decide +kernel)
theorem d_X6_findUpper_22 : decode cX6_findUpper 22 = .ok (.ifCond .le 72, 3) := by decide +kernel
theorem d_X6_findUpper_25 : decode cX6_findUpper 25 = .ok (.aload_n 0, 1) := by decide +kernel
theorem d_X6_findUpper_26 : decode cX6_findUpper 26 = .ok (.getfield 21, 3) := by decide +kernel
theorem d_X6_findUpper_29 : decode cX6_findUpper 29 = .ok (.iload_n 1, 1) := by decide +kernel
theorem d_X6_findUpper_30 : decode cX6_findUpper 30 = .ok (.iaload, 1) := by decide +kernel
theorem d_X6_findUpper_31 : decode cX6_findUpper 31 = .ok (.aload_n 0, 1) := by decide +kernel
theorem d_X6_findUpper_32 : decode cX6_findUpper 32 = .ok (.getfield 21, 3) := by decide +kernel
theorem d_X6_findUpper_35 : decode cX6_findUpper 35 = .ok (.iload 4, 2) := by decide +kernel
theorem d_X6_findUpper_37 : decode cX6_findUpper 37 = .ok (.iaload, 1) := by decide +kernel
theorem d_X6_findUpper_38 : decode cX6_findUpper 38 = .ok (.iadd, 1) := by decide +kernel
theorem d_X6_findUpper_39 : decode cX6_findUpper 39 = .ok (.iload_n 2, 1) := by decide +kernel
theorem d_X6_findUpper_40 : decode cX6_findUpper 40 = .ok (.isub, 1) := by decide +kernel
theorem d_X6_findUpper_41 : decode cX6_findUpper 41 = .ok (.aload_n 0, 1) := by decide +kernel
theorem d_X6_findUpper_42 : decode cX6_findUpper 42 = .ok (.getfield 77, 3) := by decide +kernel
theorem d_X6_findUpper_45 : decode cX6_findUpper 45 = .ok (.if_icmp .ge 43, 3) := by decide +kernel
theorem d_X6_findUpper_48 : decode cX6_findUpper 48 = .ok (.aload_n 0, 1) := by decide +kernel
theorem d_X6_findUpper_49 : decode cX6_findUpper 49 = .ok (.iload_n 1, 1) := by decide +kernel
theorem d_X6_findUpper_50 : decode cX6_findUpper 50 = .ok (.iload 4, 2) := by decide +kernel
theorem d_X6_findUpper_52 : decode cX6_findUpper 52 = .ok (.iload_n 3, 1) := by decide +kernel
theorem d_X6_findUpper_53 : decode cX6_findUpper 53 = .ok (.aload_n 0, 1) := by decide +kernel
theorem d_X6_findUpper_54 : decode cX6_findUpper 54 = .ok (.getfield 77, 3) := by decide +kernel
theorem d_X6_findUpper_57 : decode cX6_findUpper 57 = .ok (.invokevirtual 87, 3) := by decide +kernel
theorem d_X6_findUpper_60 : decode cX6_findUpper 60 = .ok (.istore 5, 2) := by decide +kernel
theorem d_X6_findUpper_62 : decode cX6_findUpper 62 = .ok (.iload 5, 2) := by decide +kernel
theorem d_X6_findUpper_64 : decode cX6_findUpper 64 = .ok (.aload_n 0, 1) := by decide +kernel
theorem d_X6_findUpper_65 : decode cX6_findUpper 65 = .ok (.getfield 77, 3) := by decide +kernel
theorem d_X6_findUpper_68 : decode cX6_findUpper 68 = .ok (.if_icmp .ge 20, 3) := by decide +kernel
theorem d_X6_findUpper_71 : decode cX6_findUpper 71 = .ok (.aload_n 0, 1) := by decide +kernel
theorem d_X6_findUpper_72 : decode cX6_findUpper 72 = .ok (.iload 5, 2) := by decide +kernel
theorem d_X6_findUpper_74 : decode cX6_findUpper 74 = .ok (.putfield 77, 3) := by decide +kernel
theorem d_X6_findUpper_77 : decode cX6_findUpper 77 = .ok (.aload_n 0, 1) := by decide +kernel
theorem d_X6_findUpper_78 : decode cX6_findUpper 78 = .ok (.iload_n 1, 1) := by decide +kernel
theorem d_X6_findUpper_79 : decode cX6_findUpper 79 = .ok (.putfield 91, 3) := by decide +kernel
theorem k_440 : (.fieldLink RX6 91 "CommonUnits$Survey" "lower" "I" : Cond) ∈ cu_G := cu_mem 440 (by decide +kernel) (by decide +kernel)
theorem d_X6_findUpper_82 : decode cX6_findUpper 82 = .ok (.aload_n 0, 1) := by decide +kernel
theorem d_X6_findUpper_83 : decode cX6_findUpper 83 = .ok (.iload 4, 2) := by decide +kernel
theorem d_X6_findUpper_85 : decode cX6_findUpper 85 = .ok (.putfield 94, 3) := by decide +kernel
theorem k_442 : (.fieldLink RX6 94 "CommonUnits$Survey" "upper" "I" : Cond) ∈ cu_G := cu_mem 442 (by decide +kernel) (by decide +kernel)
theorem d_X6_findUpper_88 : decode cX6_findUpper 88 = .ok (.iinc 4 1, 3) := by decide +kernel
theorem d_X6_findUpper_91 : decode cX6_findUpper 91 = .ok (.goto (-81), 3) := by decide +kernel
theorem d_X6_findUpper_94 : decode cX6_findUpper 94 = .ok (.return_, 1) := by decide +kernel
theorem d_X6_findPair_0 : decode cX6_findPair 0 = .ok (.aload_n 0, 1) := by decide +kernel
theorem d_X6_findPair_1 : decode cX6_findPair 1 = .ok (.getfield 64, 3) := by decide +kernel
theorem k_439 : (.fieldLink RX6 64 "CommonUnits$Survey" "pairVersion" "I" : Cond) ∈ cu_G := cu_mem 439 (by decide +kernel) (by decide +kernel)
theorem d_X6_findPair_4 : decode cX6_findPair 4 = .ok (.aload_n 0, 1) := by decide +kernel
theorem d_X6_findPair_5 : decode cX6_findPair 5 = .ok (.getfield 27, 3) := by decide +kernel
theorem d_X6_findPair_8 : decode cX6_findPair 8 = .ok (.if_icmp .ne 4, 3) := by decide +kernel
theorem d_X6_findPair_12 : decode cX6_findPair 12 = .ok (.aload_n 0, 1) := by decide +kernel
theorem d_X6_findPair_13 : decode cX6_findPair 13 = .ok (.aload_n 0, 1) := by decide +kernel
theorem d_X6_findPair_14 : decode cX6_findPair 14 = .ok (.getfield 27, 3) := by decide +kernel
theorem d_X6_findPair_17 : decode cX6_findPair 17 = .ok (.putfield 64, 3) := by decide +kernel
theorem d_X6_findPair_20 : decode cX6_findPair 20 = .ok (.aload_n 0, 1) := by decide +kernel
theorem d_X6_findPair_21 : decode cX6_findPair 21 = .ok (.invokevirtual 67, 3) := by decide +kernel
theorem hd_X6_bestUnit : cu_hd yX6_bestUnit 0 := by decide +kernel
theorem k_514 : (.code yX6_bestUnit cX6_bestUnit 3 (some .int) : Cond) ∈ cu_G := cu_mem 514 (by decide +kernel) (by decide +kernel)
theorem k_511 : (.methodLink RX6 67 yX6_bestUnit : Cond) ∈ cu_G := cu_mem 511 (by decide +kernel) (by decide +kernel)
theorem k_513 : (.instanceMethod yX6_bestUnit : Cond) ∈ cu_G := cu_mem 513 (by decide +kernel) (by decide +kernel)
theorem k_11 : (.selects RX6 yX6_bestUnit yX6_bestUnit : Cond) ∈ cu_G := cu_mem 11 (by decide +kernel) (by decide +kernel)
theorem d_X6_findPair_24 : decode cX6_findPair 24 = .ok (.istore_n 1, 1) := by decide +kernel
theorem d_X6_findPair_25 : decode cX6_findPair 25 = .ok (.aload_n 0, 1) := by decide +kernel
theorem d_X6_findPair_26 : decode cX6_findPair 26 = .ok (.invokevirtual 71, 3) := by decide +kernel
theorem hd_X6_countedColumns : cu_hd yX6_countedColumns 0 := by decide +kernel
theorem k_518 : (.code yX6_countedColumns cX6_countedColumns 3 (some .int) : Cond) ∈ cu_G := cu_mem 518 (by decide +kernel) (by decide +kernel)
theorem k_515 : (.methodLink RX6 71 yX6_countedColumns : Cond) ∈ cu_G := cu_mem 515 (by decide +kernel) (by decide +kernel)
theorem k_517 : (.instanceMethod yX6_countedColumns : Cond) ∈ cu_G := cu_mem 517 (by decide +kernel) (by decide +kernel)
theorem k_12 : (.selects RX6 yX6_countedColumns yX6_countedColumns : Cond) ∈ cu_G := cu_mem 12 (by decide +kernel) (by decide +kernel)
theorem d_X6_findPair_29 : decode cX6_findPair 29 = .ok (.sipush 4096, 3) := by decide +kernel
theorem d_X6_findPair_32 : decode cX6_findPair 32 = .ok (.imul, 1) := by decide +kernel
theorem d_X6_findPair_33 : decode cX6_findPair 33 = .ok (.istore_n 2, 1) := by decide +kernel
theorem d_X6_findPair_34 : decode cX6_findPair 34 = .ok (.aload_n 0, 1) := by decide +kernel
theorem d_X6_findPair_35 : decode cX6_findPair 35 = .ok (.aload_n 0, 1) := by decide +kernel
theorem d_X6_findPair_36 : decode cX6_findPair 36 = .ok (.iload_n 1, 1) := by decide +kernel
theorem d_X6_findPair_37 : decode cX6_findPair 37 = .ok (.invokevirtual 74, 3) := by decide +kernel
theorem hd_X6_leastWith : cu_hd yX6_leastWith 1 := by decide +kernel
theorem k_522 : (.code yX6_leastWith cX6_leastWith 5 (some .int) : Cond) ∈ cu_G := cu_mem 522 (by decide +kernel) (by decide +kernel)
theorem k_519 : (.methodLink RX6 74 yX6_leastWith : Cond) ∈ cu_G := cu_mem 519 (by decide +kernel) (by decide +kernel)
theorem k_521 : (.instanceMethod yX6_leastWith : Cond) ∈ cu_G := cu_mem 521 (by decide +kernel) (by decide +kernel)
theorem k_13 : (.selects RX6 yX6_leastWith yX6_leastWith : Cond) ∈ cu_G := cu_mem 13 (by decide +kernel) (by decide +kernel)
theorem d_X6_findPair_40 : decode cX6_findPair 40 = .ok (.iconst 1, 1) := by decide +kernel
theorem d_X6_findPair_41 : decode cX6_findPair 41 = .ok (.iadd, 1) := by decide +kernel
theorem d_X6_findPair_42 : decode cX6_findPair 42 = .ok (.putfield 77, 3) := by decide +kernel
theorem d_X6_findPair_45 : decode cX6_findPair 45 = .ok (.iconst 1, 1) := by decide +kernel
theorem d_X6_findPair_46 : decode cX6_findPair 46 = .ok (.istore_n 3, 1) := by decide +kernel
theorem d_X6_findPair_47 : decode cX6_findPair 47 = .ok (.iload_n 3, 1) := by decide +kernel
theorem d_X6_findPair_48 : decode cX6_findPair 48 = .ok (.sipush 999, 3) := by decide +kernel
theorem d_X6_findPair_51 : decode cX6_findPair 51 = .ok (.if_icmp .ge 44, 3) := by decide +kernel
theorem d_X6_findPair_54 : decode cX6_findPair 54 = .ok (.aload_n 0, 1) := by decide +kernel
theorem d_X6_findPair_55 : decode cX6_findPair 55 = .ok (.getfield 77, 3) := by decide +kernel
theorem d_X6_findPair_58 : decode cX6_findPair 58 = .ok (.ifCond .le 37, 3) := by decide +kernel
theorem d_X6_findPair_61 : decode cX6_findPair 61 = .ok (.aload_n 0, 1) := by decide +kernel
theorem d_X6_findPair_62 : decode cX6_findPair 62 = .ok (.getfield 21, 3) := by decide +kernel
theorem d_X6_findPair_65 : decode cX6_findPair 65 = .ok (.iload_n 3, 1) := by decide +kernel
theorem d_X6_findPair_66 : decode cX6_findPair 66 = .ok (.iaload, 1) := by decide +kernel
theorem d_X6_findPair_67 : decode cX6_findPair 67 = .ok (.aload_n 0, 1) := by decide +kernel
theorem d_X6_findPair_68 : decode cX6_findPair 68 = .ok (.getfield 21, 3) := by decide +kernel
theorem d_X6_findPair_71 : decode cX6_findPair 71 = .ok (.iload_n 1, 1) := by decide +kernel
theorem d_X6_findPair_72 : decode cX6_findPair 72 = .ok (.iaload, 1) := by decide +kernel
theorem d_X6_findPair_73 : decode cX6_findPair 73 = .ok (.iadd, 1) := by decide +kernel
theorem d_X6_findPair_74 : decode cX6_findPair 74 = .ok (.iload_n 2, 1) := by decide +kernel
theorem d_X6_findPair_75 : decode cX6_findPair 75 = .ok (.isub, 1) := by decide +kernel
theorem d_X6_findPair_76 : decode cX6_findPair 76 = .ok (.aload_n 0, 1) := by decide +kernel
theorem d_X6_findPair_77 : decode cX6_findPair 77 = .ok (.getfield 77, 3) := by decide +kernel
theorem d_X6_findPair_80 : decode cX6_findPair 80 = .ok (.if_icmp .ge 9, 3) := by decide +kernel
theorem d_X6_findPair_83 : decode cX6_findPair 83 = .ok (.aload_n 0, 1) := by decide +kernel
theorem d_X6_findPair_84 : decode cX6_findPair 84 = .ok (.iload_n 3, 1) := by decide +kernel
theorem d_X6_findPair_85 : decode cX6_findPair 85 = .ok (.iload_n 2, 1) := by decide +kernel
theorem d_X6_findPair_86 : decode cX6_findPair 86 = .ok (.invokevirtual 80, 3) := by decide +kernel
theorem hd_X6_findUpper : cu_hd yX6_findUpper 2 := by decide +kernel
theorem k_536 : (.code yX6_findUpper cX6_findUpper 6 none : Cond) ∈ cu_G := cu_mem 536 (by decide +kernel) (by decide +kernel)
theorem k_533 : (.methodLink RX6 80 yX6_findUpper : Cond) ∈ cu_G := cu_mem 533 (by decide +kernel) (by decide +kernel)
theorem k_535 : (.instanceMethod yX6_findUpper : Cond) ∈ cu_G := cu_mem 535 (by decide +kernel) (by decide +kernel)
theorem k_16 : (.selects RX6 yX6_findUpper yX6_findUpper : Cond) ∈ cu_G := cu_mem 16 (by decide +kernel) (by decide +kernel)
theorem d_X6_findPair_89 : decode cX6_findPair 89 = .ok (.iinc 3 1, 3) := by decide +kernel
theorem d_X6_findPair_92 : decode cX6_findPair 92 = .ok (.goto (-45), 3) := by decide +kernel
theorem d_X6_findPair_95 : decode cX6_findPair 95 = .ok (.return_, 1) := by decide +kernel
theorem d_X8_pair_0 : decode cX8_pair 0 = .ok (.iload_n 1, 1) := by decide +kernel
theorem d_X8_pair_1 : decode cX8_pair 1 = .ok (.ifCond .lt 8, 3) := by decide +kernel
theorem d_X8_pair_9 : decode cX8_pair 9 = .ok (.bipush (-2), 2) := by decide +kernel
theorem d_X8_pair_11 : decode cX8_pair 11 = .ok (.ireturn, 1) := by decide +kernel
theorem d_X8_pair_4 : decode cX8_pair 4 = .ok (.iload_n 1, 1) := by decide +kernel
theorem d_X8_pair_5 : decode cX8_pair 5 = .ok (.iconst 3, 1) := by decide +kernel
theorem d_X8_pair_6 : decode cX8_pair 6 = .ok (.if_icmp .le 6, 3) := by decide +kernel
theorem d_X8_pair_12 : decode cX8_pair 12 = .ok (.aload_n 0, 1) := by decide +kernel
theorem d_X8_pair_13 : decode cX8_pair 13 = .ok (.invokevirtual 158, 3) := by decide +kernel
theorem d_X8_pair_16 : decode cX8_pair 16 = .ok (.astore_n 2, 1) := by decide +kernel
theorem d_X8_pair_17 : decode cX8_pair 17 = .ok (.aload_n 2, 1) := by decide +kernel
theorem d_X8_pair_18 : decode cX8_pair 18 = .ok (.invokevirtual 170, 3) := by decide +kernel
theorem hd_X6_findPair : cu_hd yX6_findPair 0 := by decide +kernel
theorem k_510 : (.code yX6_findPair cX6_findPair 4 none : Cond) ∈ cu_G := cu_mem 510 (by decide +kernel) (by decide +kernel)
theorem k_507 : (.methodLink RX8 170 yX6_findPair : Cond) ∈ cu_G := cu_mem 507 (by decide +kernel) (by decide +kernel)
theorem k_508 : (.instanceMethod yX6_findPair : Cond) ∈ cu_G := cu_mem 508 (by decide +kernel) (by decide +kernel)
theorem k_509 : (.selects RX6 yX6_findPair yX6_findPair : Cond) ∈ cu_G := cu_mem 509 (by decide +kernel) (by decide +kernel)
theorem d_X8_pair_21 : decode cX8_pair 21 = .ok (.iload_n 1, 1) := by decide +kernel
theorem d_X8_pair_22 : decode cX8_pair 22 = .ok (.tableswitch 60 0 2 #[26, 31, 36], 26) := by decide +kernel
theorem d_X8_pair_48 : decode cX8_pair 48 = .ok (.aload_n 2, 1) := by decide +kernel
theorem d_X8_pair_49 : decode cX8_pair 49 = .ok (.getfield 173, 3) := by decide +kernel
theorem k_441 : (.fieldLink RX8 173 "CommonUnits$Survey" "lower" "I" : Cond) ∈ cu_G := cu_mem 441 (by decide +kernel) (by decide +kernel)
theorem d_X8_pair_52 : decode cX8_pair 52 = .ok (.ireturn, 1) := by decide +kernel
theorem d_X8_pair_53 : decode cX8_pair 53 = .ok (.aload_n 2, 1) := by decide +kernel
theorem d_X8_pair_54 : decode cX8_pair 54 = .ok (.getfield 176, 3) := by decide +kernel
theorem k_443 : (.fieldLink RX8 176 "CommonUnits$Survey" "upper" "I" : Cond) ∈ cu_G := cu_mem 443 (by decide +kernel) (by decide +kernel)
theorem d_X8_pair_57 : decode cX8_pair 57 = .ok (.ireturn, 1) := by decide +kernel
theorem d_X8_pair_58 : decode cX8_pair 58 = .ok (.aload_n 0, 1) := by decide +kernel
theorem d_X8_pair_59 : decode cX8_pair 59 = .ok (.getfield 19, 3) := by decide +kernel
theorem d_X8_pair_62 : decode cX8_pair 62 = .ok (.aload_n 2, 1) := by decide +kernel
theorem d_X8_pair_63 : decode cX8_pair 63 = .ok (.getfield 173, 3) := by decide +kernel
theorem d_X8_pair_66 : decode cX8_pair 66 = .ok (.invokevirtual 155, 3) := by decide +kernel
theorem d_X8_pair_69 : decode cX8_pair 69 = .ok (.aload_n 0, 1) := by decide +kernel
theorem d_X8_pair_70 : decode cX8_pair 70 = .ok (.getfield 19, 3) := by decide +kernel
theorem d_X8_pair_73 : decode cX8_pair 73 = .ok (.aload_n 2, 1) := by decide +kernel
theorem d_X8_pair_74 : decode cX8_pair 74 = .ok (.getfield 176, 3) := by decide +kernel
theorem d_X8_pair_77 : decode cX8_pair 77 = .ok (.invokevirtual 155, 3) := by decide +kernel
theorem d_X8_pair_80 : decode cX8_pair 80 = .ok (.ior, 1) := by decide +kernel
theorem d_X8_pair_81 : decode cX8_pair 81 = .ok (.ireturn, 1) := by decide +kernel
theorem d_X8_pair_82 : decode cX8_pair 82 = .ok (.aload_n 2, 1) := by decide +kernel
theorem d_X8_pair_83 : decode cX8_pair 83 = .ok (.getfield 179, 3) := by decide +kernel
theorem k_445 : (.fieldLink RX8 179 "CommonUnits$Survey" "pairLack" "I" : Cond) ∈ cu_G := cu_mem 445 (by decide +kernel) (by decide +kernel)
theorem d_X8_pair_86 : decode cX8_pair 86 = .ok (.sipush 4096, 3) := by decide +kernel
theorem d_X8_pair_89 : decode cX8_pair 89 = .ok (.irem, 1) := by decide +kernel
theorem d_X8_pair_90 : decode cX8_pair 90 = .ok (.ireturn, 1) := by decide +kernel
theorem d_X4_agreeWith_0 : decode cX4_agreeWith 0 = .ok (.iconst 0, 1) := by decide +kernel
theorem d_X4_agreeWith_1 : decode cX4_agreeWith 1 = .ok (.istore_n 3, 1) := by decide +kernel
theorem d_X4_agreeWith_2 : decode cX4_agreeWith 2 = .ok (.iload_n 3, 1) := by decide +kernel
theorem d_X4_agreeWith_3 : decode cX4_agreeWith 3 = .ok (.aload_n 0, 1) := by decide +kernel
theorem d_X4_agreeWith_4 : decode cX4_agreeWith 4 = .ok (.getfield 19, 3) := by decide +kernel
theorem k_168 : (.fieldLink RX4 19 "CommonUnits$Sightings" "size" "I" : Cond) ∈ cu_G := cu_mem 168 (by decide +kernel) (by decide +kernel)
theorem d_X4_agreeWith_7 : decode cX4_agreeWith 7 = .ok (.if_icmp .ge 41, 3) := by decide +kernel
theorem d_X4_agreeWith_48 : decode cX4_agreeWith 48 = .ok (.iconst 1, 1) := by decide +kernel
theorem d_X4_agreeWith_49 : decode cX4_agreeWith 49 = .ok (.ireturn, 1) := by decide +kernel
theorem d_X8_which_0 : decode cX8_which 0 = .ok (.iload_n 1, 1) := by decide +kernel
theorem d_X8_which_1 : decode cX8_which 1 = .ok (.ifCond .lt 8, 3) := by decide +kernel
theorem d_X8_which_9 : decode cX8_which 9 = .ok (.bipush (-2), 2) := by decide +kernel
theorem d_X8_which_11 : decode cX8_which 11 = .ok (.ireturn, 1) := by decide +kernel
theorem d_X8_which_4 : decode cX8_which 4 = .ok (.iload_n 1, 1) := by decide +kernel
theorem d_X8_which_5 : decode cX8_which 5 = .ok (.iconst 2, 1) := by decide +kernel
theorem d_X8_which_6 : decode cX8_which 6 = .ok (.if_icmp .le 6, 3) := by decide +kernel
theorem d_X8_which_12 : decode cX8_which 12 = .ok (.iconst 0, 1) := by decide +kernel
theorem d_X8_which_13 : decode cX8_which 13 = .ok (.istore_n 2, 1) := by decide +kernel
theorem d_X8_which_14 : decode cX8_which 14 = .ok (.bipush (-9), 2) := by decide +kernel
theorem d_X8_which_16 : decode cX8_which 16 = .ok (.istore_n 3, 1) := by decide +kernel
theorem d_X8_which_17 : decode cX8_which 17 = .ok (.bipush (-9), 2) := by decide +kernel
theorem d_X8_which_19 : decode cX8_which 19 = .ok (.istore 4, 2) := by decide +kernel
theorem d_X8_which_21 : decode cX8_which 21 = .ok (.iconst 1, 1) := by decide +kernel
theorem d_X8_which_22 : decode cX8_which 22 = .ok (.istore 5, 2) := by decide +kernel
theorem d_X8_which_24 : decode cX8_which 24 = .ok (.iload 5, 2) := by decide +kernel
theorem d_X8_which_26 : decode cX8_which 26 = .ok (.sipush 999, 3) := by decide +kernel
theorem d_X8_which_29 : decode cX8_which 29 = .ok (.if_icmp .gt 45, 3) := by decide +kernel
theorem d_X8_which_32 : decode cX8_which 32 = .ok (.aload_n 0, 1) := by decide +kernel
theorem d_X8_which_33 : decode cX8_which 33 = .ok (.getfield 43, 3) := by decide +kernel
theorem d_X8_which_36 : decode cX8_which 36 = .ok (.aload_n 0, 1) := by decide +kernel
theorem d_X8_which_37 : decode cX8_which 37 = .ok (.getfield 19, 3) := by decide +kernel
theorem d_X8_which_40 : decode cX8_which 40 = .ok (.iload 5, 2) := by decide +kernel
theorem d_X8_which_42 : decode cX8_which 42 = .ok (.invokevirtual 207, 3) := by decide +kernel
theorem hd_X4_agreeWith : cu_hd yX4_agreeWith 2 := by decide +kernel
theorem k_587 : (.code yX4_agreeWith cX4_agreeWith 4 (some .boolean) : Cond) ∈ cu_G := cu_mem 587 (by decide +kernel) (by decide +kernel)
theorem k_584 : (.methodLink RX8 207 yX4_agreeWith : Cond) ∈ cu_G := cu_mem 584 (by decide +kernel) (by decide +kernel)
theorem k_585 : (.instanceMethod yX4_agreeWith : Cond) ∈ cu_G := cu_mem 585 (by decide +kernel) (by decide +kernel)
theorem k_586 : (.selects RX4 yX4_agreeWith yX4_agreeWith : Cond) ∈ cu_G := cu_mem 586 (by decide +kernel) (by decide +kernel)
theorem d_X8_which_45 : decode cX8_which 45 = .ok (.ifCond .eq 23, 3) := by decide +kernel
theorem d_X8_which_48 : decode cX8_which 48 = .ok (.iinc 2 1, 3) := by decide +kernel
theorem d_X8_which_51 : decode cX8_which 51 = .ok (.iload_n 3, 1) := by decide +kernel
theorem d_X8_which_52 : decode cX8_which 52 = .ok (.bipush (-9), 2) := by decide +kernel
theorem d_X8_which_54 : decode cX8_which 54 = .ok (.if_icmp .ne 8, 3) := by decide +kernel
theorem d_X8_which_57 : decode cX8_which 57 = .ok (.iload 5, 2) := by decide +kernel
theorem d_X8_which_59 : decode cX8_which 59 = .ok (.goto 4, 3) := by decide +kernel
theorem d_X8_which_63 : decode cX8_which 63 = .ok (.istore_n 3, 1) := by decide +kernel
theorem d_X8_which_64 : decode cX8_which 64 = .ok (.iload 5, 2) := by decide +kernel
theorem d_X8_which_66 : decode cX8_which 66 = .ok (.istore 4, 2) := by decide +kernel
theorem d_X8_which_68 : decode cX8_which 68 = .ok (.iinc 5 1, 3) := by decide +kernel
theorem d_X8_which_71 : decode cX8_which 71 = .ok (.goto (-47), 3) := by decide +kernel
theorem d_X8_which_74 : decode cX8_which 74 = .ok (.iload_n 1, 1) := by decide +kernel
theorem d_X8_which_75 : decode cX8_which 75 = .ok (.ifCond .ne 7, 3) := by decide +kernel
theorem d_X8_which_82 : decode cX8_which 82 = .ok (.iload_n 1, 1) := by decide +kernel
theorem d_X8_which_83 : decode cX8_which 83 = .ok (.iconst 1, 1) := by decide +kernel
theorem d_X8_which_84 : decode cX8_which 84 = .ok (.if_icmp .ne 7, 3) := by decide +kernel
theorem d_X8_which_91 : decode cX8_which 91 = .ok (.iload 4, 2) := by decide +kernel
theorem d_X8_which_93 : decode cX8_which 93 = .ok (.ireturn, 1) := by decide +kernel
theorem d_X8_which_87 : decode cX8_which 87 = .ok (.iload_n 3, 1) := by decide +kernel
theorem d_X8_which_88 : decode cX8_which 88 = .ok (.goto 5, 3) := by decide +kernel
theorem d_X8_which_78 : decode cX8_which 78 = .ok (.iload_n 2, 1) := by decide +kernel
theorem d_X8_which_79 : decode cX8_which 79 = .ok (.goto 14, 3) := by decide +kernel
theorem d_X8_which_62 : decode cX8_which 62 = .ok (.iload_n 3, 1) := by decide +kernel
theorem d_X6_placesBy_0 : decode cX6_placesBy 0 = .ok (.iload_n 1, 1) := by decide +kernel
theorem d_X6_placesBy_1 : decode cX6_placesBy 1 = .ok (.invokestatic 55, 3) := by decide +kernel
theorem d_X6_placesBy_4 : decode cX6_placesBy 4 = .ok (.ifCond .ne 5, 3) := by decide +kernel
theorem d_X6_placesBy_9 : decode cX6_placesBy 9 = .ok (.iconst 0, 1) := by decide +kernel
theorem d_X6_placesBy_10 : decode cX6_placesBy 10 = .ok (.istore_n 2, 1) := by decide +kernel
theorem d_X6_placesBy_11 : decode cX6_placesBy 11 = .ok (.iconst 0, 1) := by decide +kernel
theorem d_X6_placesBy_12 : decode cX6_placesBy 12 = .ok (.istore_n 3, 1) := by decide +kernel
theorem d_X6_placesBy_13 : decode cX6_placesBy 13 = .ok (.iconst 0, 1) := by decide +kernel
theorem d_X6_placesBy_14 : decode cX6_placesBy 14 = .ok (.istore 4, 2) := by decide +kernel
theorem d_X6_placesBy_16 : decode cX6_placesBy 16 = .ok (.iload 4, 2) := by decide +kernel
theorem d_X6_placesBy_18 : decode cX6_placesBy 18 = .ok (.bipush 12, 2) := by decide +kernel
theorem d_X6_placesBy_20 : decode cX6_placesBy 20 = .ok (.if_icmp .ge 46, 3) := by decide +kernel
theorem d_X6_placesBy_66 : decode cX6_placesBy 66 = .ok (.iload_n 2, 1) := by decide +kernel
theorem d_X6_placesBy_67 : decode cX6_placesBy 67 = .ok (.ireturn, 1) := by decide +kernel
theorem d_X6_placesBy_23 : decode cX6_placesBy 23 = .ok (.aload_n 0, 1) := by decide +kernel
theorem d_X6_placesBy_24 : decode cX6_placesBy 24 = .ok (.getfield 9, 3) := by decide +kernel
theorem d_X6_placesBy_27 : decode cX6_placesBy 27 = .ok (.iload 4, 2) := by decide +kernel
theorem d_X6_placesBy_29 : decode cX6_placesBy 29 = .ok (.iaload, 1) := by decide +kernel
theorem d_X6_placesBy_30 : decode cX6_placesBy 30 = .ok (.ifCond .le 30, 3) := by decide +kernel
theorem d_X6_placesBy_60 : decode cX6_placesBy 60 = .ok (.iinc 4 1, 3) := by decide +kernel
theorem d_X6_placesBy_63 : decode cX6_placesBy 63 = .ok (.goto (-47), 3) := by decide +kernel
theorem d_X1_markSubsets_0 : decode cX1_markSubsets 0 = .ok (.iconst 1, 1) := by decide +kernel
theorem d_X1_markSubsets_1 : decode cX1_markSubsets 1 = .ok (.aload_n 0, 1) := by decide +kernel
theorem d_X1_markSubsets_2 : decode cX1_markSubsets 2 = .ok (.getfield 22, 3) := by decide +kernel
theorem k_152 : (.fieldLink RX1 22 "CommonUnits$Crowd" "size" "I" : Cond) ∈ cu_G := cu_mem 152 (by decide +kernel) (by decide +kernel)
theorem d_X1_markSubsets_5 : decode cX1_markSubsets 5 = .ok (.ishl, 1) := by decide +kernel
theorem d_X1_markSubsets_6 : decode cX1_markSubsets 6 = .ok (.iconst 1, 1) := by decide +kernel
theorem d_X1_markSubsets_7 : decode cX1_markSubsets 7 = .ok (.isub, 1) := by decide +kernel
theorem d_X1_markSubsets_8 : decode cX1_markSubsets 8 = .ok (.istore_n 1, 1) := by decide +kernel
theorem d_X1_markSubsets_9 : decode cX1_markSubsets 9 = .ok (.iload_n 1, 1) := by decide +kernel
theorem d_X1_markSubsets_10 : decode cX1_markSubsets 10 = .ok (.ifCond .lt 46, 3) := by decide +kernel
theorem d_X1_markSubsets_13 : decode cX1_markSubsets 13 = .ok (.iconst 0, 1) := by decide +kernel
theorem d_X1_markSubsets_14 : decode cX1_markSubsets 14 = .ok (.istore_n 2, 1) := by decide +kernel
theorem d_X1_markSubsets_15 : decode cX1_markSubsets 15 = .ok (.iload_n 2, 1) := by decide +kernel
theorem d_X1_markSubsets_16 : decode cX1_markSubsets 16 = .ok (.aload_n 0, 1) := by decide +kernel
theorem d_X1_markSubsets_17 : decode cX1_markSubsets 17 = .ok (.getfield 22, 3) := by decide +kernel
theorem d_X1_markSubsets_20 : decode cX1_markSubsets 20 = .ok (.if_icmp .ge 30, 3) := by decide +kernel
theorem d_X1_markSubsets_50 : decode cX1_markSubsets 50 = .ok (.iinc 1 (-1), 3) := by decide +kernel
theorem d_X1_markSubsets_53 : decode cX1_markSubsets 53 = .ok (.goto (-44), 3) := by decide +kernel
theorem d_X1_markSubsets_56 : decode cX1_markSubsets 56 = .ok (.return_, 1) := by decide +kernel
theorem d_X1_fillValues_0 : decode cX1_fillValues 0 = .ok (.iconst 0, 1) := by decide +kernel
theorem d_X1_fillValues_1 : decode cX1_fillValues 1 = .ok (.istore_n 1, 1) := by decide +kernel
theorem d_X1_fillValues_2 : decode cX1_fillValues 2 = .ok (.iload_n 1, 1) := by decide +kernel
theorem d_X1_fillValues_3 : decode cX1_fillValues 3 = .ok (.iconst 1, 1) := by decide +kernel
theorem d_X1_fillValues_4 : decode cX1_fillValues 4 = .ok (.aload_n 0, 1) := by decide +kernel
theorem d_X1_fillValues_5 : decode cX1_fillValues 5 = .ok (.getfield 22, 3) := by decide +kernel
theorem d_X1_fillValues_8 : decode cX1_fillValues 8 = .ok (.ishl, 1) := by decide +kernel
theorem d_X1_fillValues_9 : decode cX1_fillValues 9 = .ok (.if_icmp .ge 75, 3) := by decide +kernel
theorem d_X1_fillValues_12 : decode cX1_fillValues 12 = .ok (.aload_n 0, 1) := by decide +kernel
theorem d_X1_fillValues_13 : decode cX1_fillValues 13 = .ok (.getfield 9, 3) := by decide +kernel
theorem d_X1_fillValues_16 : decode cX1_fillValues 16 = .ok (.iload_n 1, 1) := by decide +kernel
theorem d_X1_fillValues_17 : decode cX1_fillValues 17 = .ok (.iaload, 1) := by decide +kernel
theorem d_X1_fillValues_18 : decode cX1_fillValues 18 = .ok (.iconst 1, 1) := by decide +kernel
theorem d_X1_fillValues_19 : decode cX1_fillValues 19 = .ok (.if_icmp .ne 10, 3) := by decide +kernel
theorem d_X1_fillValues_22 : decode cX1_fillValues 22 = .ok (.iload_n 1, 1) := by decide +kernel
theorem d_X1_fillValues_23 : decode cX1_fillValues 23 = .ok (.invokestatic 35, 3) := by decide +kernel
theorem k_618 : (.methodLink RX1 35 yJ6_bitCount_0f7a4 : Cond) ∈ cu_G := cu_mem 618 (by decide +kernel) (by decide +kernel)
theorem d_X1_fillValues_26 : decode cX1_fillValues 26 = .ok (.goto 4, 3) := by decide +kernel
theorem d_X1_fillValues_30 : decode cX1_fillValues 30 = .ok (.istore_n 2, 1) := by decide +kernel
theorem d_X1_fillValues_31 : decode cX1_fillValues 31 = .ok (.iconst 0, 1) := by decide +kernel
theorem d_X1_fillValues_32 : decode cX1_fillValues 32 = .ok (.istore_n 3, 1) := by decide +kernel
theorem d_X1_fillValues_33 : decode cX1_fillValues 33 = .ok (.iload_n 3, 1) := by decide +kernel
theorem d_X1_fillValues_34 : decode cX1_fillValues 34 = .ok (.aload_n 0, 1) := by decide +kernel
theorem d_X1_fillValues_35 : decode cX1_fillValues 35 = .ok (.getfield 22, 3) := by decide +kernel
theorem d_X1_fillValues_38 : decode cX1_fillValues 38 = .ok (.if_icmp .ge 33, 3) := by decide +kernel
theorem d_X1_fillValues_71 : decode cX1_fillValues 71 = .ok (.aload_n 0, 1) := by decide +kernel
theorem d_X1_fillValues_72 : decode cX1_fillValues 72 = .ok (.getfield 9, 3) := by decide +kernel
theorem d_X1_fillValues_75 : decode cX1_fillValues 75 = .ok (.iload_n 1, 1) := by decide +kernel
theorem d_X1_fillValues_76 : decode cX1_fillValues 76 = .ok (.iload_n 2, 1) := by decide +kernel
theorem d_X1_fillValues_77 : decode cX1_fillValues 77 = .ok (.iastore, 1) := by decide +kernel
theorem d_X1_fillValues_78 : decode cX1_fillValues 78 = .ok (.iinc 1 1, 3) := by decide +kernel
theorem d_X1_fillValues_81 : decode cX1_fillValues 81 = .ok (.goto (-79), 3) := by decide +kernel
theorem d_X1_fillValues_84 : decode cX1_fillValues 84 = .ok (.return_, 1) := by decide +kernel
theorem d_X1_gather_0 : decode cX1_gather 0 = .ok (.aload_n 0, 1) := by decide +kernel
theorem d_X1_gather_1 : decode cX1_gather 1 = .ok (.getfield 15, 3) := by decide +kernel
theorem k_151 : (.fieldLink RX1 15 "CommonUnits$Crowd" "version" "I" : Cond) ∈ cu_G := cu_mem 151 (by decide +kernel) (by decide +kernel)
theorem d_X1_gather_4 : decode cX1_gather 4 = .ok (.aload_n 1, 1) := by decide +kernel
theorem d_X1_gather_5 : decode cX1_gather 5 = .ok (.getfield 19, 3) := by decide +kernel
theorem k_437 : (.fieldLink RX1 19 "CommonUnits$Survey" "version" "I" : Cond) ∈ cu_G := cu_mem 437 (by decide +kernel) (by decide +kernel)
theorem d_X1_gather_8 : decode cX1_gather 8 = .ok (.if_icmp .eq 9, 3) := by decide +kernel
theorem d_X1_gather_11 : decode cX1_gather 11 = .ok (.iload_n 2, 1) := by decide +kernel
theorem d_X1_gather_12 : decode cX1_gather 12 = .ok (.bipush 8, 2) := by decide +kernel
theorem d_X1_gather_14 : decode cX1_gather 14 = .ok (.if_icmp .le 4, 3) := by decide +kernel
theorem d_X1_gather_18 : decode cX1_gather 18 = .ok (.aload_n 0, 1) := by decide +kernel
theorem d_X1_gather_19 : decode cX1_gather 19 = .ok (.aload_n 1, 1) := by decide +kernel
theorem d_X1_gather_20 : decode cX1_gather 20 = .ok (.getfield 19, 3) := by decide +kernel
theorem d_X1_gather_23 : decode cX1_gather 23 = .ok (.putfield 15, 3) := by decide +kernel
theorem d_X1_gather_26 : decode cX1_gather 26 = .ok (.aload_n 0, 1) := by decide +kernel
theorem d_X1_gather_27 : decode cX1_gather 27 = .ok (.iload_n 2, 1) := by decide +kernel
theorem d_X1_gather_28 : decode cX1_gather 28 = .ok (.putfield 22, 3) := by decide +kernel
theorem d_X1_gather_31 : decode cX1_gather 31 = .ok (.iconst 0, 1) := by decide +kernel
theorem d_X1_gather_32 : decode cX1_gather 32 = .ok (.istore_n 3, 1) := by decide +kernel
theorem d_X1_gather_33 : decode cX1_gather 33 = .ok (.iload_n 3, 1) := by decide +kernel
theorem d_X1_gather_34 : decode cX1_gather 34 = .ok (.sipush 256, 3) := by decide +kernel
theorem d_X1_gather_37 : decode cX1_gather 37 = .ok (.if_icmp .ge 16, 3) := by decide +kernel
theorem d_X1_gather_53 : decode cX1_gather 53 = .ok (.iconst 1, 1) := by decide +kernel
theorem d_X1_gather_54 : decode cX1_gather 54 = .ok (.istore_n 3, 1) := by decide +kernel
theorem d_X1_gather_55 : decode cX1_gather 55 = .ok (.iload_n 3, 1) := by decide +kernel
theorem d_X1_gather_56 : decode cX1_gather 56 = .ok (.sipush 999, 3) := by decide +kernel
theorem d_X1_gather_59 : decode cX1_gather 59 = .ok (.if_icmp .gt 24, 3) := by decide +kernel
theorem d_X1_gather_62 : decode cX1_gather 62 = .ok (.aload_n 0, 1) := by decide +kernel
theorem d_X1_gather_63 : decode cX1_gather 63 = .ok (.getfield 9, 3) := by decide +kernel
theorem d_X1_gather_66 : decode cX1_gather 66 = .ok (.aload_n 1, 1) := by decide +kernel
theorem d_X1_gather_67 : decode cX1_gather 67 = .ok (.iload_n 3, 1) := by decide +kernel
theorem d_X1_gather_68 : decode cX1_gather 68 = .ok (.invokevirtual 25, 3) := by decide +kernel
theorem hd_X6_placesBy : cu_hd yX6_placesBy 1 := by decide +kernel
theorem k_609 : (.code yX6_placesBy cX6_placesBy 5 (some .int) : Cond) ∈ cu_G := cu_mem 609 (by decide +kernel) (by decide +kernel)
theorem k_606 : (.methodLink RX1 25 yX6_placesBy : Cond) ∈ cu_G := cu_mem 606 (by decide +kernel) (by decide +kernel)
theorem k_607 : (.instanceMethod yX6_placesBy : Cond) ∈ cu_G := cu_mem 607 (by decide +kernel) (by decide +kernel)
theorem k_608 : (.selects RX6 yX6_placesBy yX6_placesBy : Cond) ∈ cu_G := cu_mem 608 (by decide +kernel) (by decide +kernel)
theorem d_X1_gather_71 : decode cX1_gather 71 = .ok (.sipush 256, 3) := by decide +kernel
theorem d_X1_gather_74 : decode cX1_gather 74 = .ok (.irem, 1) := by decide +kernel
theorem d_X1_gather_75 : decode cX1_gather 75 = .ok (.iconst 1, 1) := by decide +kernel
theorem d_X1_gather_76 : decode cX1_gather 76 = .ok (.iastore, 1) := by decide +kernel
theorem d_X1_gather_77 : decode cX1_gather 77 = .ok (.iinc 3 1, 3) := by decide +kernel
theorem d_X1_gather_80 : decode cX1_gather 80 = .ok (.goto (-25), 3) := by decide +kernel
theorem d_X1_gather_83 : decode cX1_gather 83 = .ok (.aload_n 0, 1) := by decide +kernel
theorem d_X1_gather_84 : decode cX1_gather 84 = .ok (.invokevirtual 29, 3) := by decide +kernel
theorem hd_X1_markSubsets : cu_hd yX1_markSubsets 0 := by decide +kernel
theorem k_613 : (.code yX1_markSubsets cX1_markSubsets 3 none : Cond) ∈ cu_G := cu_mem 613 (by decide +kernel) (by decide +kernel)
theorem k_610 : (.methodLink RX1 29 yX1_markSubsets : Cond) ∈ cu_G := cu_mem 610 (by decide +kernel) (by decide +kernel)
theorem k_612 : (.instanceMethod yX1_markSubsets : Cond) ∈ cu_G := cu_mem 612 (by decide +kernel) (by decide +kernel)
theorem k_18 : (.selects RX1 yX1_markSubsets yX1_markSubsets : Cond) ∈ cu_G := cu_mem 18 (by decide +kernel) (by decide +kernel)
theorem d_X1_gather_87 : decode cX1_gather 87 = .ok (.aload_n 0, 1) := by decide +kernel
theorem d_X1_gather_88 : decode cX1_gather 88 = .ok (.invokevirtual 32, 3) := by decide +kernel
theorem hd_X1_fillValues : cu_hd yX1_fillValues 0 := by decide +kernel
theorem k_617 : (.code yX1_fillValues cX1_fillValues 4 none : Cond) ∈ cu_G := cu_mem 617 (by decide +kernel) (by decide +kernel)
theorem k_614 : (.methodLink RX1 32 yX1_fillValues : Cond) ∈ cu_G := cu_mem 614 (by decide +kernel) (by decide +kernel)
theorem k_616 : (.instanceMethod yX1_fillValues : Cond) ∈ cu_G := cu_mem 616 (by decide +kernel) (by decide +kernel)
theorem k_19 : (.selects RX1 yX1_fillValues yX1_fillValues : Cond) ∈ cu_G := cu_mem 19 (by decide +kernel) (by decide +kernel)
theorem d_X1_gather_91 : decode cX1_gather 91 = .ok (.return_, 1) := by decide +kernel
theorem d_X1_gather_40 : decode cX1_gather 40 = .ok (.aload_n 0, 1) := by decide +kernel
theorem d_X1_gather_41 : decode cX1_gather 41 = .ok (.getfield 9, 3) := by decide +kernel
theorem d_X1_gather_44 : decode cX1_gather 44 = .ok (.iload_n 3, 1) := by decide +kernel
theorem d_X1_gather_45 : decode cX1_gather 45 = .ok (.iconst 0, 1) := by decide +kernel
theorem d_X1_gather_46 : decode cX1_gather 46 = .ok (.iastore, 1) := by decide +kernel
theorem d_X1_gather_47 : decode cX1_gather 47 = .ok (.iinc 3 1, 3) := by decide +kernel
theorem d_X1_gather_50 : decode cX1_gather 50 = .ok (.goto (-17), 3) := by decide +kernel
theorem d_X1_power_0 : decode cX1_power 0 = .ok (.iconst 1, 1) := by decide +kernel
theorem d_X1_power_1 : decode cX1_power 1 = .ok (.istore_n 2, 1) := by decide +kernel
theorem d_X1_power_2 : decode cX1_power 2 = .ok (.iconst 0, 1) := by decide +kernel
theorem d_X1_power_3 : decode cX1_power 3 = .ok (.istore_n 3, 1) := by decide +kernel
theorem d_X1_power_4 : decode cX1_power 4 = .ok (.iload_n 3, 1) := by decide +kernel
theorem d_X1_power_5 : decode cX1_power 5 = .ok (.iload_n 1, 1) := by decide +kernel
theorem d_X1_power_6 : decode cX1_power 6 = .ok (.if_icmp .ge 13, 3) := by decide +kernel
theorem d_X1_power_19 : decode cX1_power 19 = .ok (.iload_n 2, 1) := by decide +kernel
theorem d_X1_power_20 : decode cX1_power 20 = .ok (.ireturn, 1) := by decide +kernel
theorem d_X1_partOfFraction_0 : decode cX1_partOfFraction 0 = .ok (.iload_n 1, 1) := by decide +kernel
theorem d_X1_partOfFraction_1 : decode cX1_partOfFraction 1 = .ok (.istore_n 3, 1) := by decide +kernel
theorem d_X1_partOfFraction_2 : decode cX1_partOfFraction 2 = .ok (.iload_n 0, 1) := by decide +kernel
theorem d_X1_partOfFraction_3 : decode cX1_partOfFraction 3 = .ok (.istore 4, 2) := by decide +kernel
theorem d_X1_partOfFraction_5 : decode cX1_partOfFraction 5 = .ok (.iconst 0, 1) := by decide +kernel
theorem d_X1_partOfFraction_6 : decode cX1_partOfFraction 6 = .ok (.istore 5, 2) := by decide +kernel
theorem d_X1_partOfFraction_8 : decode cX1_partOfFraction 8 = .ok (.iload 5, 2) := by decide +kernel
theorem d_X1_partOfFraction_10 : decode cX1_partOfFraction 10 = .ok (.bipush 64, 2) := by decide +kernel
theorem d_X1_partOfFraction_12 : decode cX1_partOfFraction 12 = .ok (.if_icmp .ge 27, 3) := by decide +kernel
theorem d_X1_partOfFraction_15 : decode cX1_partOfFraction 15 = .ok (.iload 4, 2) := by decide +kernel
theorem d_X1_partOfFraction_17 : decode cX1_partOfFraction 17 = .ok (.ifCond .eq 22, 3) := by decide +kernel
theorem d_X1_partOfFraction_20 : decode cX1_partOfFraction 20 = .ok (.iload_n 3, 1) := by decide +kernel
theorem d_X1_partOfFraction_21 : decode cX1_partOfFraction 21 = .ok (.iload 4, 2) := by decide +kernel
theorem d_X1_partOfFraction_23 : decode cX1_partOfFraction 23 = .ok (.irem, 1) := by decide +kernel
theorem d_X1_partOfFraction_24 : decode cX1_partOfFraction 24 = .ok (.istore 6, 2) := by decide +kernel
theorem d_X1_partOfFraction_26 : decode cX1_partOfFraction 26 = .ok (.iload 4, 2) := by decide +kernel
theorem d_X1_partOfFraction_28 : decode cX1_partOfFraction 28 = .ok (.istore_n 3, 1) := by decide +kernel
theorem d_X1_partOfFraction_29 : decode cX1_partOfFraction 29 = .ok (.iload 6, 2) := by decide +kernel
theorem d_X1_partOfFraction_31 : decode cX1_partOfFraction 31 = .ok (.istore 4, 2) := by decide +kernel
theorem d_X1_partOfFraction_33 : decode cX1_partOfFraction 33 = .ok (.iinc 5 1, 3) := by decide +kernel
theorem d_X1_partOfFraction_36 : decode cX1_partOfFraction 36 = .ok (.goto (-28), 3) := by decide +kernel
theorem d_X1_partOfFraction_39 : decode cX1_partOfFraction 39 = .ok (.iload_n 3, 1) := by decide +kernel
theorem d_X1_partOfFraction_40 : decode cX1_partOfFraction 40 = .ok (.ifCond .ne 5, 3) := by decide +kernel
theorem d_X1_partOfFraction_45 : decode cX1_partOfFraction 45 = .ok (.iload_n 2, 1) := by decide +kernel
theorem d_X1_partOfFraction_46 : decode cX1_partOfFraction 46 = .ok (.ifCond .eq 9, 3) := by decide +kernel
theorem d_X1_partOfFraction_55 : decode cX1_partOfFraction 55 = .ok (.iload_n 1, 1) := by decide +kernel
theorem d_X1_partOfFraction_56 : decode cX1_partOfFraction 56 = .ok (.iload_n 3, 1) := by decide +kernel
theorem d_X1_partOfFraction_57 : decode cX1_partOfFraction 57 = .ok (.idiv, 1) := by decide +kernel
theorem d_X1_partOfFraction_58 : decode cX1_partOfFraction 58 = .ok (.ireturn, 1) := by decide +kernel
theorem d_X1_partOfFraction_49 : decode cX1_partOfFraction 49 = .ok (.iload_n 0, 1) := by decide +kernel
theorem d_X1_partOfFraction_50 : decode cX1_partOfFraction 50 = .ok (.iload_n 3, 1) := by decide +kernel
theorem d_X1_partOfFraction_51 : decode cX1_partOfFraction 51 = .ok (.idiv, 1) := by decide +kernel
theorem d_X1_partOfFraction_52 : decode cX1_partOfFraction 52 = .ok (.goto 6, 3) := by decide +kernel
theorem d_X1_chanceOfUnit_0 : decode cX1_chanceOfUnit 0 = .ok (.iconst 0, 1) := by decide +kernel
theorem d_X1_chanceOfUnit_1 : decode cX1_chanceOfUnit 1 = .ok (.istore_n 3, 1) := by decide +kernel
theorem d_X1_chanceOfUnit_2 : decode cX1_chanceOfUnit 2 = .ok (.iconst 0, 1) := by decide +kernel
theorem d_X1_chanceOfUnit_3 : decode cX1_chanceOfUnit 3 = .ok (.istore 4, 2) := by decide +kernel
theorem d_X1_chanceOfUnit_5 : decode cX1_chanceOfUnit 5 = .ok (.iload 4, 2) := by decide +kernel
theorem d_X1_chanceOfUnit_7 : decode cX1_chanceOfUnit 7 = .ok (.iconst 1, 1) := by decide +kernel
theorem d_X1_chanceOfUnit_8 : decode cX1_chanceOfUnit 8 = .ok (.aload_n 0, 1) := by decide +kernel
theorem d_X1_chanceOfUnit_9 : decode cX1_chanceOfUnit 9 = .ok (.getfield 22, 3) := by decide +kernel
theorem d_X1_chanceOfUnit_12 : decode cX1_chanceOfUnit 12 = .ok (.ishl, 1) := by decide +kernel
theorem d_X1_chanceOfUnit_13 : decode cX1_chanceOfUnit 13 = .ok (.if_icmp .ge 52, 3) := by decide +kernel
theorem d_X1_chanceOfUnit_16 : decode cX1_chanceOfUnit 16 = .ok (.iload 4, 2) := by decide +kernel
theorem d_X1_chanceOfUnit_18 : decode cX1_chanceOfUnit 18 = .ok (.invokestatic 35, 3) := by decide +kernel
theorem d_X1_chanceOfUnit_21 : decode cX1_chanceOfUnit 21 = .ok (.istore 5, 2) := by decide +kernel
theorem d_X1_chanceOfUnit_23 : decode cX1_chanceOfUnit 23 = .ok (.aload_n 0, 1) := by decide +kernel
theorem d_X1_chanceOfUnit_24 : decode cX1_chanceOfUnit 24 = .ok (.getfield 9, 3) := by decide +kernel
theorem d_X1_chanceOfUnit_27 : decode cX1_chanceOfUnit 27 = .ok (.iload 4, 2) := by decide +kernel
theorem d_X1_chanceOfUnit_29 : decode cX1_chanceOfUnit 29 = .ok (.iaload, 1) := by decide +kernel
theorem d_X1_chanceOfUnit_30 : decode cX1_chanceOfUnit 30 = .ok (.iload 5, 2) := by decide +kernel
theorem d_X1_chanceOfUnit_32 : decode cX1_chanceOfUnit 32 = .ok (.if_icmp .ne 27, 3) := by decide +kernel
theorem d_X1_chanceOfUnit_35 : decode cX1_chanceOfUnit 35 = .ok (.iload_n 3, 1) := by decide +kernel
theorem d_X1_chanceOfUnit_36 : decode cX1_chanceOfUnit 36 = .ok (.iload_n 1, 1) := by decide +kernel
theorem d_X1_chanceOfUnit_37 : decode cX1_chanceOfUnit 37 = .ok (.aload_n 0, 1) := by decide +kernel
theorem d_X1_chanceOfUnit_38 : decode cX1_chanceOfUnit 38 = .ok (.getfield 22, 3) := by decide +kernel
theorem d_X1_chanceOfUnit_41 : decode cX1_chanceOfUnit 41 = .ok (.iload 5, 2) := by decide +kernel
theorem d_X1_chanceOfUnit_43 : decode cX1_chanceOfUnit 43 = .ok (.isub, 1) := by decide +kernel
theorem d_X1_chanceOfUnit_44 : decode cX1_chanceOfUnit 44 = .ok (.invokestatic 56, 3) := by decide +kernel
theorem hd_X1_power : cu_hd yX1_power 2 := by decide +kernel
theorem k_645 : (.code yX1_power cX1_power 4 (some .int) : Cond) ∈ cu_G := cu_mem 645 (by decide +kernel) (by decide +kernel)
theorem k_643 : (.methodLink RX1 56 yX1_power : Cond) ∈ cu_G := cu_mem 643 (by decide +kernel) (by decide +kernel)
theorem k_644 : (.static yX1_power : Cond) ∈ cu_G := cu_mem 644 (by decide +kernel) (by decide +kernel)
theorem d_X1_chanceOfUnit_47 : decode cX1_chanceOfUnit 47 = .ok (.bipush 10, 2) := by decide +kernel
theorem d_X1_chanceOfUnit_49 : decode cX1_chanceOfUnit 49 = .ok (.iload_n 1, 1) := by decide +kernel
theorem d_X1_chanceOfUnit_50 : decode cX1_chanceOfUnit 50 = .ok (.isub, 1) := by decide +kernel
theorem d_X1_chanceOfUnit_51 : decode cX1_chanceOfUnit 51 = .ok (.iload 5, 2) := by decide +kernel
theorem d_X1_chanceOfUnit_53 : decode cX1_chanceOfUnit 53 = .ok (.invokestatic 56, 3) := by decide +kernel
theorem d_X1_chanceOfUnit_56 : decode cX1_chanceOfUnit 56 = .ok (.imul, 1) := by decide +kernel
theorem d_X1_chanceOfUnit_57 : decode cX1_chanceOfUnit 57 = .ok (.iadd, 1) := by decide +kernel
theorem d_X1_chanceOfUnit_58 : decode cX1_chanceOfUnit 58 = .ok (.istore_n 3, 1) := by decide +kernel
theorem d_X1_chanceOfUnit_59 : decode cX1_chanceOfUnit 59 = .ok (.iinc 4 1, 3) := by decide +kernel
theorem d_X1_chanceOfUnit_62 : decode cX1_chanceOfUnit 62 = .ok (.goto (-57), 3) := by decide +kernel
theorem d_X1_chanceOfUnit_65 : decode cX1_chanceOfUnit 65 = .ok (.iload_n 3, 1) := by decide +kernel
theorem d_X1_chanceOfUnit_66 : decode cX1_chanceOfUnit 66 = .ok (.bipush 10, 2) := by decide +kernel
theorem d_X1_chanceOfUnit_68 : decode cX1_chanceOfUnit 68 = .ok (.aload_n 0, 1) := by decide +kernel
theorem d_X1_chanceOfUnit_69 : decode cX1_chanceOfUnit 69 = .ok (.getfield 22, 3) := by decide +kernel
theorem d_X1_chanceOfUnit_72 : decode cX1_chanceOfUnit 72 = .ok (.invokestatic 56, 3) := by decide +kernel
theorem d_X1_chanceOfUnit_75 : decode cX1_chanceOfUnit 75 = .ok (.iload_n 2, 1) := by decide +kernel
theorem d_X1_chanceOfUnit_76 : decode cX1_chanceOfUnit 76 = .ok (.invokestatic 49, 3) := by decide +kernel
theorem hd_X1_partOfFraction : cu_hd yX1_partOfFraction 3 := by decide +kernel
theorem k_634 : (.code yX1_partOfFraction cX1_partOfFraction 7 (some .int) : Cond) ∈ cu_G := cu_mem 634 (by decide +kernel) (by decide +kernel)
theorem k_632 : (.methodLink RX1 49 yX1_partOfFraction : Cond) ∈ cu_G := cu_mem 632 (by decide +kernel) (by decide +kernel)
theorem k_633 : (.static yX1_partOfFraction : Cond) ∈ cu_G := cu_mem 633 (by decide +kernel) (by decide +kernel)
theorem d_X1_chanceOfUnit_79 : decode cX1_chanceOfUnit 79 = .ok (.ireturn, 1) := by decide +kernel
theorem d_X8_lost_0 : decode cX8_lost 0 = .ok (.iload_n 1, 1) := by decide +kernel
theorem d_X8_lost_1 : decode cX8_lost 1 = .ok (.ifCond .lt 9, 3) := by decide +kernel
theorem d_X8_lost_10 : decode cX8_lost 10 = .ok (.bipush (-2), 2) := by decide +kernel
theorem d_X8_lost_12 : decode cX8_lost 12 = .ok (.ireturn, 1) := by decide +kernel
theorem d_X8_lost_4 : decode cX8_lost 4 = .ok (.iload_n 1, 1) := by decide +kernel
theorem d_X8_lost_5 : decode cX8_lost 5 = .ok (.bipush 10, 2) := by decide +kernel
theorem d_X8_lost_7 : decode cX8_lost 7 = .ok (.if_icmp .le 6, 3) := by decide +kernel
theorem d_X8_lost_13 : decode cX8_lost 13 = .ok (.aload_n 0, 1) := by decide +kernel
theorem d_X8_lost_14 : decode cX8_lost 14 = .ok (.getfield 19, 3) := by decide +kernel
theorem d_X8_lost_17 : decode cX8_lost 17 = .ok (.invokevirtual 213, 3) := by decide +kernel
theorem hd_X3_counted : cu_hd yX3_counted 0 := by decide +kernel
theorem k_597 : (.code yX3_counted cX3_counted 1 (some .int) : Cond) ∈ cu_G := cu_mem 597 (by decide +kernel) (by decide +kernel)
theorem k_594 : (.methodLink RX8 213 yX3_counted : Cond) ∈ cu_G := cu_mem 594 (by decide +kernel) (by decide +kernel)
theorem k_595 : (.instanceMethod yX3_counted : Cond) ∈ cu_G := cu_mem 595 (by decide +kernel) (by decide +kernel)
theorem k_596 : (.selects RX3 yX3_counted yX3_counted : Cond) ∈ cu_G := cu_mem 596 (by decide +kernel) (by decide +kernel)
theorem d_X8_lost_20 : decode cX8_lost 20 = .ok (.bipush 8, 2) := by decide +kernel
theorem d_X8_lost_22 : decode cX8_lost 22 = .ok (.if_icmp .le 6, 3) := by decide +kernel
theorem d_X8_lost_28 : decode cX8_lost 28 = .ok (.aload_n 0, 1) := by decide +kernel
theorem d_X8_lost_29 : decode cX8_lost 29 = .ok (.getfield 36, 3) := by decide +kernel
theorem d_X8_lost_32 : decode cX8_lost 32 = .ok (.aload_n 0, 1) := by decide +kernel
theorem d_X8_lost_33 : decode cX8_lost 33 = .ok (.invokevirtual 158, 3) := by decide +kernel
theorem d_X8_lost_36 : decode cX8_lost 36 = .ok (.aload_n 0, 1) := by decide +kernel
theorem d_X8_lost_37 : decode cX8_lost 37 = .ok (.getfield 19, 3) := by decide +kernel
theorem d_X8_lost_40 : decode cX8_lost 40 = .ok (.invokevirtual 213, 3) := by decide +kernel
theorem d_X8_lost_43 : decode cX8_lost 43 = .ok (.invokevirtual 217, 3) := by decide +kernel
theorem hd_X1_gather : cu_hd yX1_gather 2 := by decide +kernel
theorem k_605 : (.code yX1_gather cX1_gather 4 none : Cond) ∈ cu_G := cu_mem 605 (by decide +kernel) (by decide +kernel)
theorem k_602 : (.methodLink RX8 217 yX1_gather : Cond) ∈ cu_G := cu_mem 602 (by decide +kernel) (by decide +kernel)
theorem k_603 : (.instanceMethod yX1_gather : Cond) ∈ cu_G := cu_mem 603 (by decide +kernel) (by decide +kernel)
theorem k_604 : (.selects RX1 yX1_gather yX1_gather : Cond) ∈ cu_G := cu_mem 604 (by decide +kernel) (by decide +kernel)
theorem d_X8_lost_46 : decode cX8_lost 46 = .ok (.aload_n 0, 1) := by decide +kernel
theorem d_X8_lost_47 : decode cX8_lost 47 = .ok (.getfield 36, 3) := by decide +kernel
theorem d_X8_lost_50 : decode cX8_lost 50 = .ok (.iload_n 1, 1) := by decide +kernel
theorem d_X8_lost_51 : decode cX8_lost 51 = .ok (.iload_n 2, 1) := by decide +kernel
theorem d_X8_lost_52 : decode cX8_lost 52 = .ok (.invokevirtual 228, 3) := by decide +kernel
theorem hd_X1_chanceOfUnit : cu_hd yX1_chanceOfUnit 2 := by decide +kernel
theorem k_642 : (.code yX1_chanceOfUnit cX1_chanceOfUnit 6 (some .int) : Cond) ∈ cu_G := cu_mem 642 (by decide +kernel) (by decide +kernel)
theorem k_639 : (.methodLink RX8 228 yX1_chanceOfUnit : Cond) ∈ cu_G := cu_mem 639 (by decide +kernel) (by decide +kernel)
theorem k_640 : (.instanceMethod yX1_chanceOfUnit : Cond) ∈ cu_G := cu_mem 640 (by decide +kernel) (by decide +kernel)
theorem k_641 : (.selects RX1 yX1_chanceOfUnit yX1_chanceOfUnit : Cond) ∈ cu_G := cu_mem 641 (by decide +kernel) (by decide +kernel)
theorem d_X8_lost_55 : decode cX8_lost 55 = .ok (.ireturn, 1) := by decide +kernel
theorem d_X3_bestUnit_0 : decode cX3_bestUnit 0 = .ok (.sipush 999, 3) := by decide +kernel
theorem d_X3_bestUnit_3 : decode cX3_bestUnit 3 = .ok (.istore_n 1, 1) := by decide +kernel
theorem d_X3_bestUnit_4 : decode cX3_bestUnit 4 = .ok (.ldc 74, 2) := by decide +kernel
theorem k_562 : (.constant RX3 74 53248 : Cond) ∈ cu_G := cu_mem 562 (by decide +kernel) (by decide +kernel)
theorem d_X3_bestUnit_6 : decode cX3_bestUnit 6 = .ok (.istore_n 2, 1) := by decide +kernel
theorem d_X3_bestUnit_7 : decode cX3_bestUnit 7 = .ok (.sipush 999, 3) := by decide +kernel
theorem d_X3_bestUnit_10 : decode cX3_bestUnit 10 = .ok (.istore_n 3, 1) := by decide +kernel
theorem d_X3_bestUnit_11 : decode cX3_bestUnit 11 = .ok (.iload_n 3, 1) := by decide +kernel
theorem d_X3_bestUnit_12 : decode cX3_bestUnit 12 = .ok (.iconst 1, 1) := by decide +kernel
theorem d_X3_bestUnit_13 : decode cX3_bestUnit 13 = .ok (.if_icmp .lt 28, 3) := by decide +kernel
theorem d_X3_bestUnit_16 : decode cX3_bestUnit 16 = .ok (.aload_n 0, 1) := by decide +kernel
theorem d_X3_bestUnit_17 : decode cX3_bestUnit 17 = .ok (.iload_n 3, 1) := by decide +kernel
theorem d_X3_bestUnit_18 : decode cX3_bestUnit 18 = .ok (.iload_n 2, 1) := by decide +kernel
theorem d_X3_bestUnit_19 : decode cX3_bestUnit 19 = .ok (.invokevirtual 75, 3) := by decide +kernel
theorem hd_X3_lackOf : cu_hd yX3_lackOf 2 := by decide +kernel
theorem k_566 : (.code yX3_lackOf cX3_lackOf 5 (some .int) : Cond) ∈ cu_G := cu_mem 566 (by decide +kernel) (by decide +kernel)
theorem k_563 : (.methodLink RX3 75 yX3_lackOf : Cond) ∈ cu_G := cu_mem 563 (by decide +kernel) (by decide +kernel)
theorem k_565 : (.instanceMethod yX3_lackOf : Cond) ∈ cu_G := cu_mem 565 (by decide +kernel) (by decide +kernel)
theorem k_17 : (.selects RX3 yX3_lackOf yX3_lackOf : Cond) ∈ cu_G := cu_mem 17 (by decide +kernel) (by decide +kernel)
theorem d_X3_bestUnit_22 : decode cX3_bestUnit 22 = .ok (.istore 4, 2) := by decide +kernel
theorem d_X3_bestUnit_24 : decode cX3_bestUnit 24 = .ok (.iload 4, 2) := by decide +kernel
theorem d_X3_bestUnit_26 : decode cX3_bestUnit 26 = .ok (.iload_n 2, 1) := by decide +kernel
theorem d_X3_bestUnit_27 : decode cX3_bestUnit 27 = .ok (.if_icmp .ge 8, 3) := by decide +kernel
theorem d_X3_bestUnit_30 : decode cX3_bestUnit 30 = .ok (.iload 4, 2) := by decide +kernel
theorem d_X3_bestUnit_32 : decode cX3_bestUnit 32 = .ok (.istore_n 2, 1) := by decide +kernel
theorem d_X3_bestUnit_33 : decode cX3_bestUnit 33 = .ok (.iload_n 3, 1) := by decide +kernel
theorem d_X3_bestUnit_34 : decode cX3_bestUnit 34 = .ok (.istore_n 1, 1) := by decide +kernel
theorem d_X3_bestUnit_35 : decode cX3_bestUnit 35 = .ok (.iinc 3 (-1), 3) := by decide +kernel
theorem d_X3_bestUnit_38 : decode cX3_bestUnit 38 = .ok (.goto (-27), 3) := by decide +kernel
theorem d_X3_bestUnit_41 : decode cX3_bestUnit 41 = .ok (.iload_n 1, 1) := by decide +kernel
theorem d_X3_bestUnit_42 : decode cX3_bestUnit 42 = .ok (.ireturn, 1) := by decide +kernel
theorem cu_nsub {a b : Nat} (h : b ≤ a) : nI a - nI b = nI (a - b) := by
  have h1 : nI a = nI (a - b) + nI b := by rw [nI_add, Nat.sub_add_cancel h]
  rw [h1, Int32.add_sub_cancel]
theorem cu_dec (n : Nat) : nI (n + 1) + Int32.ofInt (-1) = nI n := by
  rw [← nI_1]
  have h1 : (Int32.ofInt (-1)) = -1 := by decide
  rw [h1, Int32.add_assoc]
  have h2 : (1 : Int32) + -1 = 0 := by decide
  rw [h2, Int32.add_zero]
theorem cu_two {x : Int32} (h0 : ¬ x < 0) (h1 : x < 2) : x = 0 ∨ x = 1 := by
  have a := mt cu_lt.mpr h0; have b := cu_lt.mp h1
  have e0 : (0 : Int32).toInt = 0 := by decide
  have e1 : (1 : Int32).toInt = 1 := by decide
  have e2 : (2 : Int32).toInt = 2 := by decide
  rcases (show x.toInt = 0 ∨ x.toInt = 1 by omega) with h | h
  · exact Or.inl (Int32.toInt_inj.mp (by rw [h, e0]))
  · exact Or.inr (Int32.toInt_inj.mp (by rw [h, e1]))
/-- an int between two literals is nI of a number there -/
theorem cu_nat {x lo hi : Int32} (a b : Nat) (hlo : lo.toInt = a) (hhi : hi.toInt = b) (h1 : ¬ x < lo) (h2 : ¬ hi < x) : ∃ k : Nat, (a ≤ k ∧ k ≤ b) ∧ x = nI k := by
  have q1 := mt cu_lt.mpr h1; have q2 := mt cu_lt.mpr h2
  rw [hlo] at q1; rw [hhi] at q2
  have hx := Int32.toInt_lt x
  refine ⟨x.toInt.toNat, ⟨by omega, by omega⟩, Int32.toInt_inj.mp ?_⟩
  rw [nI_toInt (by omega)]
  omega
set_option maxHeartbeats 4000000 in
set_option maxRecDepth 100000 in
theorem c_X3_copyFrom (l : Launch) (D : va_G) (cI cZ cQ : ClassId) (h w y a u : Nat) (h2 w2 y2 a2 u2 : Nat) (rt lw rt2 lw2 : Int32) : cu_V l D (cu_TY cI cZ cQ) yX3_copyFrom cX3_copyFrom 3 0 0 0 0 [.ref h, .ref h2] [(h, .inr (2, [.ref w, .ref y, .ref a, .ref u, .int 0, .int 0, .int rt, .int lw])), (w, .inl (cI, 12, .inl (fun _ => 0))), (y, .inl (cI, 12, .inl (fun _ => 0))), (a, .inl (cI, 12, .inl (fun _ => 0))), (u, .inl (cI, 3, .inl (fun _ => 0))), (h2, .inr (2, [.ref w2, .ref y2, .ref a2, .ref u2, .int 0, .int 0, .int rt2, .int lw2])), (w2, .inl (cI, 12, .inl (fun _ => 0))), (y2, .inl (cI, 12, .inl (fun _ => 0))), (a2, .inl (cI, 12, .inl (fun _ => 0))), (u2, .inl (cI, 3, .inl (fun _ => 0)))] (fun ww => ww = [(h, .inr (2, [.ref w, .ref y, .ref a, .ref u, .int 0, .int 0, .int rt2, .int lw2])), (h2, .inr (2, [.ref w2, .ref y2, .ref a2, .ref u2, .int 0, .int 0, .int rt2, .int lw2]))]) := by
  refine cu_V.intro (by decide) (Nat.le_of_ble_eq_true rfl) ?_
  intro p e s m args below meth c Q ls A S hin hret hP hD hS hA hK hl
  obtain ⟨hx, hb, hml, hown, hg⟩ := S
  have hown : s.vm.findClass RX3 = some m.cls := hown
  have hin : meth.name = "copyFrom" := hin
  have hl : lv_has ls 3 [(0, .ref h), (1, .ref h2)] := hl
  refine lv_iconst (v := 0) hx hb d_X3_copyFrom_0 (by decide) ?_
  refine lv_istore_n (lv' := [(2, .int 0), (0, .ref h), (1, .ref h2)]) hx hb d_X3_copyFrom_1 rfl hl (by decide) rfl (fun ls hl => ?_)
  have key_1 : ∀ (n_3 j_2 : Nat) (hj_5 : j_2 + n_3 = 12) (f1 : Nat → Int32) (f2 : Nat → Int32) (f3 : Nat → Int32)  (H : Heap) (locs : List Loc) (ls : Array Slot) (hP : va_P D vwCl [(h, .inr (2, [.ref w, .ref y, .ref a, .ref u, .int 0, .int 0, .int rt, .int lw])), (w, .inl (cI, 12, .inl f1)), (y, .inl (cI, 12, .inl f2)), (a, .inl (cI, 12, .inl f3)), (u, .inl (cI, 3, .inl (fun _ => 0))), (h2, .inr (2, [.ref w2, .ref y2, .ref a2, .ref u2, .int 0, .int 0, .int rt2, .int lw2])), (w2, .inl (cI, 12, .inl (fun _ => 0))), (y2, .inl (cI, 12, .inl (fun _ => 0))), (a2, .inl (cI, 12, .inl (fun _ => 0))), (u2, .inl (cI, 3, .inl (fun _ => 0)))] H) (hD : va_D A [(h, .inr (2, [.ref w, .ref y, .ref a, .ref u, .int 0, .int 0, .int rt, .int lw])), (w, .inl (cI, 12, .inl f1)), (y, .inl (cI, 12, .inl f2)), (a, .inl (cI, 12, .inl f3)), (u, .inl (cI, 3, .inl (fun _ => 0))), (h2, .inr (2, [.ref w2, .ref y2, .ref a2, .ref u2, .int 0, .int 0, .int rt2, .int lw2])), (w2, .inl (cI, 12, .inl (fun _ => 0))), (y2, .inl (cI, 12, .inl (fun _ => 0))), (a2, .inl (cI, 12, .inl (fun _ => 0))), (u2, .inl (cI, 3, .inl (fun _ => 0)))]) (hS : va_S A s.heap H locs) (hl : lv_has ls 3 [(2, .int (nI j_2)), (0, .ref h), (1, .ref h2)]), W p l e (cu_rm 0 0 0 0) s m args below meth c H locs 0 0 Q (F0 m 2 ls []) := by
    intro n_3
    induction n_3 with
    | zero =>
      intro j_2 hj_5 f1 f2 f3  H locs ls hP hD hS hl
      obtain rfl : 12 = j_2 := by omega
      have hl : lv_has ls 3 [(2, .int 12), (0, .ref h), (1, .ref h2)] := hl
      have hP : va_P D vwCl [(h, .inr (2, [.ref w, .ref y, .ref a, .ref u, .int 0, .int 0, .int rt, .int lw])), (w, .inl (cI, 12, .inl f1)), (y, .inl (cI, 12, .inl f2)), (a, .inl (cI, 12, .inl f3)), (u, .inl (cI, 3, .inl (fun _ => 0))), (h2, .inr (2, [.ref w2, .ref y2, .ref a2, .ref u2, .int 0, .int 0, .int rt2, .int lw2])), (w2, .inl (cI, 12, .inl (fun _ => 0))), (y2, .inl (cI, 12, .inl (fun _ => 0))), (a2, .inl (cI, 12, .inl (fun _ => 0))), (u2, .inl (cI, 3, .inl (fun _ => 0)))] H := hP
      have hD : va_D A [(h, .inr (2, [.ref w, .ref y, .ref a, .ref u, .int 0, .int 0, .int rt, .int lw])), (w, .inl (cI, 12, .inl f1)), (y, .inl (cI, 12, .inl f2)), (a, .inl (cI, 12, .inl f3)), (u, .inl (cI, 3, .inl (fun _ => 0))), (h2, .inr (2, [.ref w2, .ref y2, .ref a2, .ref u2, .int 0, .int 0, .int rt2, .int lw2])), (w2, .inl (cI, 12, .inl (fun _ => 0))), (y2, .inl (cI, 12, .inl (fun _ => 0))), (a2, .inl (cI, 12, .inl (fun _ => 0))), (u2, .inl (cI, 3, .inl (fun _ => 0)))] := hD
      refine lv_iload_n hx hb d_X3_copyFrom_2 rfl (lv_at hl 0 rfl) ?_
      refine lv_bipush (v := 12) hx hb d_X3_copyFrom_3 (by decide) ?_
      refine lv_icmp_ge (tgt := 50) hx hb d_X3_copyFrom_5 (by decide) (fun _ => ?_) (fun c_6 => absurd (by decide +kernel) c_6)
      refine lv_iconst (v := 0) hx hb d_X3_copyFrom_50 (by decide) ?_
      refine lv_istore_n (lv' := [(2, .int 0), (0, .ref h), (1, .ref h2)]) hx hb d_X3_copyFrom_51 rfl hl (by decide) rfl (fun ls hl => ?_)
      have key_7 : ∀ (n_9 j_8 : Nat) (hj_11 : j_8 + n_9 = 3) (f4 : Nat → Int32)  (H : Heap) (locs : List Loc) (ls : Array Slot) (hP : va_P D vwCl [(h, .inr (2, [.ref w, .ref y, .ref a, .ref u, .int 0, .int 0, .int rt, .int lw])), (w, .inl (cI, 12, .inl f1)), (y, .inl (cI, 12, .inl f2)), (a, .inl (cI, 12, .inl f3)), (u, .inl (cI, 3, .inl f4)), (h2, .inr (2, [.ref w2, .ref y2, .ref a2, .ref u2, .int 0, .int 0, .int rt2, .int lw2])), (w2, .inl (cI, 12, .inl (fun _ => 0))), (y2, .inl (cI, 12, .inl (fun _ => 0))), (a2, .inl (cI, 12, .inl (fun _ => 0))), (u2, .inl (cI, 3, .inl (fun _ => 0)))] H) (hD : va_D A [(h, .inr (2, [.ref w, .ref y, .ref a, .ref u, .int 0, .int 0, .int rt, .int lw])), (w, .inl (cI, 12, .inl f1)), (y, .inl (cI, 12, .inl f2)), (a, .inl (cI, 12, .inl f3)), (u, .inl (cI, 3, .inl f4)), (h2, .inr (2, [.ref w2, .ref y2, .ref a2, .ref u2, .int 0, .int 0, .int rt2, .int lw2])), (w2, .inl (cI, 12, .inl (fun _ => 0))), (y2, .inl (cI, 12, .inl (fun _ => 0))), (a2, .inl (cI, 12, .inl (fun _ => 0))), (u2, .inl (cI, 3, .inl (fun _ => 0)))]) (hS : va_S A s.heap H locs) (hl : lv_has ls 3 [(2, .int (nI j_8)), (0, .ref h), (1, .ref h2)]), W p l e (cu_rm 0 0 0 0) s m args below meth c H locs 0 0 Q (F0 m 52 ls []) := by
        intro n_9
        induction n_9 with
        | zero =>
          intro j_8 hj_11 f4  H locs ls hP hD hS hl
          obtain rfl : 3 = j_8 := by omega
          have hl : lv_has ls 3 [(2, .int 3), (0, .ref h), (1, .ref h2)] := hl
          have hP : va_P D vwCl [(h, .inr (2, [.ref w, .ref y, .ref a, .ref u, .int 0, .int 0, .int rt, .int lw])), (w, .inl (cI, 12, .inl f1)), (y, .inl (cI, 12, .inl f2)), (a, .inl (cI, 12, .inl f3)), (u, .inl (cI, 3, .inl f4)), (h2, .inr (2, [.ref w2, .ref y2, .ref a2, .ref u2, .int 0, .int 0, .int rt2, .int lw2])), (w2, .inl (cI, 12, .inl (fun _ => 0))), (y2, .inl (cI, 12, .inl (fun _ => 0))), (a2, .inl (cI, 12, .inl (fun _ => 0))), (u2, .inl (cI, 3, .inl (fun _ => 0)))] H := hP
          have hD : va_D A [(h, .inr (2, [.ref w, .ref y, .ref a, .ref u, .int 0, .int 0, .int rt, .int lw])), (w, .inl (cI, 12, .inl f1)), (y, .inl (cI, 12, .inl f2)), (a, .inl (cI, 12, .inl f3)), (u, .inl (cI, 3, .inl f4)), (h2, .inr (2, [.ref w2, .ref y2, .ref a2, .ref u2, .int 0, .int 0, .int rt2, .int lw2])), (w2, .inl (cI, 12, .inl (fun _ => 0))), (y2, .inl (cI, 12, .inl (fun _ => 0))), (a2, .inl (cI, 12, .inl (fun _ => 0))), (u2, .inl (cI, 3, .inl (fun _ => 0)))] := hD
          refine lv_iload_n hx hb d_X3_copyFrom_52 rfl (lv_at hl 0 rfl) ?_
          refine lv_iconst (v := 3) hx hb d_X3_copyFrom_53 (by decide) ?_
          refine lv_icmp_ge (tgt := 75) hx hb d_X3_copyFrom_54 (by decide) (fun _ => ?_) (fun c_12 => absurd (by decide +kernel) c_12)
          refine lv_aload_n hx hb d_X3_copyFrom_75 rfl (lv_at hl 1 rfl) ?_
          refine lv_aload_n hx hb d_X3_copyFrom_76 rfl (lv_at hl 2 rfl) ?_
          refine va_get (D := D) (ci := 2) (v := .int 0) (C := RX3) (T := TX3) (N := 8) hx hb hg cu_iX3 hown hK.1 hP 5 rfl rfl 4 (by decide) (hg _ k_94) (fun _ h9 => h9) rfl d_X3_copyFrom_77 ?_
          refine va_put (D := D) (ci := 2) (v := .int 0) (ty := .int) (C := RX3) (T := TX3) (N := 8) hx hb hg cu_iX3 tyX3 tyX3_ok nmX3 hown hK.1 hP hD hS 0 rfl rfl 4 (by decide) (hg _ k_94) (fun _ h9 => h9) rfl (by decide +kernel) rfl rfl (Nat.le_of_ble_eq_true rfl) d_X3_copyFrom_80 (fun H locs hP hD hS => ?_)
          have hP : va_P D vwCl [(h, .inr (2, [.ref w, .ref y, .ref a, .ref u, .int 0, .int 0, .int rt, .int lw])), (w, .inl (cI, 12, .inl f1)), (y, .inl (cI, 12, .inl f2)), (a, .inl (cI, 12, .inl f3)), (u, .inl (cI, 3, .inl f4)), (h2, .inr (2, [.ref w2, .ref y2, .ref a2, .ref u2, .int 0, .int 0, .int rt2, .int lw2])), (w2, .inl (cI, 12, .inl (fun _ => 0))), (y2, .inl (cI, 12, .inl (fun _ => 0))), (a2, .inl (cI, 12, .inl (fun _ => 0))), (u2, .inl (cI, 3, .inl (fun _ => 0)))] H := hP
          have hD : va_D A [(h, .inr (2, [.ref w, .ref y, .ref a, .ref u, .int 0, .int 0, .int rt, .int lw])), (w, .inl (cI, 12, .inl f1)), (y, .inl (cI, 12, .inl f2)), (a, .inl (cI, 12, .inl f3)), (u, .inl (cI, 3, .inl f4)), (h2, .inr (2, [.ref w2, .ref y2, .ref a2, .ref u2, .int 0, .int 0, .int rt2, .int lw2])), (w2, .inl (cI, 12, .inl (fun _ => 0))), (y2, .inl (cI, 12, .inl (fun _ => 0))), (a2, .inl (cI, 12, .inl (fun _ => 0))), (u2, .inl (cI, 3, .inl (fun _ => 0)))] := hD
          refine lv_aload_n hx hb d_X3_copyFrom_83 rfl (lv_at hl 1 rfl) ?_
          refine lv_aload_n hx hb d_X3_copyFrom_84 rfl (lv_at hl 2 rfl) ?_
          refine va_get (D := D) (ci := 2) (v := .int 0) (C := RX3) (T := TX3) (N := 8) hx hb hg cu_iX3 hown hK.1 hP 5 rfl rfl 5 (by decide) (hg _ k_97) (fun _ h9 => h9) rfl d_X3_copyFrom_85 ?_
          refine va_put (D := D) (ci := 2) (v := .int 0) (ty := .int) (C := RX3) (T := TX3) (N := 8) hx hb hg cu_iX3 tyX3 tyX3_ok nmX3 hown hK.1 hP hD hS 0 rfl rfl 5 (by decide) (hg _ k_97) (fun _ h9 => h9) rfl (by decide +kernel) rfl rfl (Nat.le_of_ble_eq_true rfl) d_X3_copyFrom_88 (fun H locs hP hD hS => ?_)
          have hP : va_P D vwCl [(h, .inr (2, [.ref w, .ref y, .ref a, .ref u, .int 0, .int 0, .int rt, .int lw])), (w, .inl (cI, 12, .inl f1)), (y, .inl (cI, 12, .inl f2)), (a, .inl (cI, 12, .inl f3)), (u, .inl (cI, 3, .inl f4)), (h2, .inr (2, [.ref w2, .ref y2, .ref a2, .ref u2, .int 0, .int 0, .int rt2, .int lw2])), (w2, .inl (cI, 12, .inl (fun _ => 0))), (y2, .inl (cI, 12, .inl (fun _ => 0))), (a2, .inl (cI, 12, .inl (fun _ => 0))), (u2, .inl (cI, 3, .inl (fun _ => 0)))] H := hP
          have hD : va_D A [(h, .inr (2, [.ref w, .ref y, .ref a, .ref u, .int 0, .int 0, .int rt, .int lw])), (w, .inl (cI, 12, .inl f1)), (y, .inl (cI, 12, .inl f2)), (a, .inl (cI, 12, .inl f3)), (u, .inl (cI, 3, .inl f4)), (h2, .inr (2, [.ref w2, .ref y2, .ref a2, .ref u2, .int 0, .int 0, .int rt2, .int lw2])), (w2, .inl (cI, 12, .inl (fun _ => 0))), (y2, .inl (cI, 12, .inl (fun _ => 0))), (a2, .inl (cI, 12, .inl (fun _ => 0))), (u2, .inl (cI, 3, .inl (fun _ => 0)))] := hD
          refine lv_aload_n hx hb d_X3_copyFrom_91 rfl (lv_at hl 1 rfl) ?_
          refine lv_aload_n hx hb d_X3_copyFrom_92 rfl (lv_at hl 2 rfl) ?_
          refine va_get (D := D) (ci := 2) (v := .int rt2) (C := RX3) (T := TX3) (N := 8) hx hb hg cu_iX3 hown hK.1 hP 5 rfl rfl 6 (by decide) (hg _ k_100) (fun _ h9 => h9) rfl d_X3_copyFrom_93 ?_
          refine va_put (D := D) (ci := 2) (v := .int rt2) (ty := .int) (C := RX3) (T := TX3) (N := 8) hx hb hg cu_iX3 tyX3 tyX3_ok nmX3 hown hK.1 hP hD hS 0 rfl rfl 6 (by decide) (hg _ k_100) (fun _ h9 => h9) rfl (by decide +kernel) rfl rfl (Nat.le_of_ble_eq_true rfl) d_X3_copyFrom_96 (fun H locs hP hD hS => ?_)
          have hP : va_P D vwCl [(h, .inr (2, [.ref w, .ref y, .ref a, .ref u, .int 0, .int 0, .int rt2, .int lw])), (w, .inl (cI, 12, .inl f1)), (y, .inl (cI, 12, .inl f2)), (a, .inl (cI, 12, .inl f3)), (u, .inl (cI, 3, .inl f4)), (h2, .inr (2, [.ref w2, .ref y2, .ref a2, .ref u2, .int 0, .int 0, .int rt2, .int lw2])), (w2, .inl (cI, 12, .inl (fun _ => 0))), (y2, .inl (cI, 12, .inl (fun _ => 0))), (a2, .inl (cI, 12, .inl (fun _ => 0))), (u2, .inl (cI, 3, .inl (fun _ => 0)))] H := hP
          have hD : va_D A [(h, .inr (2, [.ref w, .ref y, .ref a, .ref u, .int 0, .int 0, .int rt2, .int lw])), (w, .inl (cI, 12, .inl f1)), (y, .inl (cI, 12, .inl f2)), (a, .inl (cI, 12, .inl f3)), (u, .inl (cI, 3, .inl f4)), (h2, .inr (2, [.ref w2, .ref y2, .ref a2, .ref u2, .int 0, .int 0, .int rt2, .int lw2])), (w2, .inl (cI, 12, .inl (fun _ => 0))), (y2, .inl (cI, 12, .inl (fun _ => 0))), (a2, .inl (cI, 12, .inl (fun _ => 0))), (u2, .inl (cI, 3, .inl (fun _ => 0)))] := hD
          refine lv_aload_n hx hb d_X3_copyFrom_99 rfl (lv_at hl 1 rfl) ?_
          refine lv_aload_n hx hb d_X3_copyFrom_100 rfl (lv_at hl 2 rfl) ?_
          refine va_get (D := D) (ci := 2) (v := .int lw2) (C := RX3) (T := TX3) (N := 8) hx hb hg cu_iX3 hown hK.1 hP 5 rfl rfl 7 (by decide) (hg _ k_102) (fun _ h9 => h9) rfl d_X3_copyFrom_101 ?_
          refine va_put (D := D) (ci := 2) (v := .int lw2) (ty := .int) (C := RX3) (T := TX3) (N := 8) hx hb hg cu_iX3 tyX3 tyX3_ok nmX3 hown hK.1 hP hD hS 0 rfl rfl 7 (by decide) (hg _ k_102) (fun _ h9 => h9) rfl (by decide +kernel) rfl rfl (Nat.le_of_ble_eq_true rfl) d_X3_copyFrom_104 (fun H locs hP hD hS => ?_)
          have hP : va_P D vwCl [(h, .inr (2, [.ref w, .ref y, .ref a, .ref u, .int 0, .int 0, .int rt2, .int lw2])), (w, .inl (cI, 12, .inl f1)), (y, .inl (cI, 12, .inl f2)), (a, .inl (cI, 12, .inl f3)), (u, .inl (cI, 3, .inl f4)), (h2, .inr (2, [.ref w2, .ref y2, .ref a2, .ref u2, .int 0, .int 0, .int rt2, .int lw2])), (w2, .inl (cI, 12, .inl (fun _ => 0))), (y2, .inl (cI, 12, .inl (fun _ => 0))), (a2, .inl (cI, 12, .inl (fun _ => 0))), (u2, .inl (cI, 3, .inl (fun _ => 0)))] H := hP
          have hD : va_D A [(h, .inr (2, [.ref w, .ref y, .ref a, .ref u, .int 0, .int 0, .int rt2, .int lw2])), (w, .inl (cI, 12, .inl f1)), (y, .inl (cI, 12, .inl f2)), (a, .inl (cI, 12, .inl f3)), (u, .inl (cI, 3, .inl f4)), (h2, .inr (2, [.ref w2, .ref y2, .ref a2, .ref u2, .int 0, .int 0, .int rt2, .int lw2])), (w2, .inl (cI, 12, .inl (fun _ => 0))), (y2, .inl (cI, 12, .inl (fun _ => 0))), (a2, .inl (cI, 12, .inl (fun _ => 0))), (u2, .inl (cI, 3, .inl (fun _ => 0)))] := hD
          exact hret _ _ _ _ [(h, .inr (2, [.ref w, .ref y, .ref a, .ref u, .int 0, .int 0, .int rt2, .int lw2])), (h2, .inr (2, [.ref w2, .ref y2, .ref a2, .ref u2, .int 0, .int 0, .int rt2, .int lw2]))] _ _ (hP.sub (ws' := [(h, .inr (2, [.ref w, .ref y, .ref a, .ref u, .int 0, .int 0, .int rt2, .int lw2])), (h2, .inr (2, [.ref w2, .ref y2, .ref a2, .ref u2, .int 0, .int 0, .int rt2, .int lw2]))]) [0, 5] rfl) (hD.sub (ws' := [(h, .inr (2, [.ref w, .ref y, .ref a, .ref u, .int 0, .int 0, .int rt2, .int lw2])), (h2, .inr (2, [.ref w2, .ref y2, .ref a2, .ref u2, .int 0, .int 0, .int rt2, .int lw2]))]) [0, 5] (by decide) rfl) hS (Nat.le_of_ble_eq_true rfl) (Nat.le_of_ble_eq_true rfl) d_X3_copyFrom_107 rfl
        | succ n_9 ih_10 =>
          intro j_8 hj_11 f4  H locs ls hP hD hS hl
          refine lv_iload_n hx hb d_X3_copyFrom_52 rfl (lv_at hl 0 rfl) ?_
          refine lv_iconst (v := 3) hx hb d_X3_copyFrom_53 (by decide) ?_
          refine lv_icmp_ge (tgt := 75) hx hb d_X3_copyFrom_54 (by decide) (fun c_13 => absurd c_13 (mt (nI_leI (a := 3) (b := j_8) (by omega) (by omega)).mp (by omega))) (fun _ => ?_)
          refine lv_aload_n hx hb d_X3_copyFrom_57 rfl (lv_at hl 1 rfl) ?_
          refine va_get (D := D) (ci := 2) (v := .ref u) (C := RX3) (T := TX3) (N := 8) hx hb hg cu_iX3 hown hK.1 hP 0 rfl rfl 3 (by decide) (hg _ k_92) (fun _ h9 => h9) rfl d_X3_copyFrom_58 ?_
          refine lv_iload_n hx hb d_X3_copyFrom_61 rfl (lv_at hl 0 rfl) ?_
          refine lv_aload_n hx hb d_X3_copyFrom_62 rfl (lv_at hl 2 rfl) ?_
          refine va_get (D := D) (ci := 2) (v := .ref u2) (C := RX3) (T := TX3) (N := 8) hx hb hg cu_iX3 hown hK.1 hP 5 rfl rfl 3 (by decide) (hg _ k_92) (fun _ h9 => h9) rfl d_X3_copyFrom_63 ?_
          refine lv_iload_n hx hb d_X3_copyFrom_66 rfl (lv_at hl 0 rfl) ?_
          refine va_iald hx hb hK.1 hP 9 0 rfl rfl (vp_in_nI (by omega) (by decide)) d_X3_copyFrom_67 ?_
          refine cu_topi (y := 0) rfl ?_
          refine va_iast hx hb hK.1 hP hD hS 4 0 rfl rfl (vp_in_nI (by omega) (by decide)) d_X3_copyFrom_68 (fun H locs hP hD hS => ?_)
          have hP : va_P D vwCl [(h, .inr (2, [.ref w, .ref y, .ref a, .ref u, .int 0, .int 0, .int rt, .int lw])), (w, .inl (cI, 12, .inl f1)), (y, .inl (cI, 12, .inl f2)), (a, .inl (cI, 12, .inl f3)), (u, .inl (cI, 3, .inl (upd f4 (nI j_8 : Int32).toNatClampNeg (0 : Int32)))), (h2, .inr (2, [.ref w2, .ref y2, .ref a2, .ref u2, .int 0, .int 0, .int rt2, .int lw2])), (w2, .inl (cI, 12, .inl (fun _ => 0))), (y2, .inl (cI, 12, .inl (fun _ => 0))), (a2, .inl (cI, 12, .inl (fun _ => 0))), (u2, .inl (cI, 3, .inl (fun _ => 0)))] H := hP
          have hD : va_D A [(h, .inr (2, [.ref w, .ref y, .ref a, .ref u, .int 0, .int 0, .int rt, .int lw])), (w, .inl (cI, 12, .inl f1)), (y, .inl (cI, 12, .inl f2)), (a, .inl (cI, 12, .inl f3)), (u, .inl (cI, 3, .inl (upd f4 (nI j_8 : Int32).toNatClampNeg (0 : Int32)))), (h2, .inr (2, [.ref w2, .ref y2, .ref a2, .ref u2, .int 0, .int 0, .int rt2, .int lw2])), (w2, .inl (cI, 12, .inl (fun _ => 0))), (y2, .inl (cI, 12, .inl (fun _ => 0))), (a2, .inl (cI, 12, .inl (fun _ => 0))), (u2, .inl (cI, 3, .inl (fun _ => 0)))] := hD
          refine lv_iinc (v := nI (j_8 + 1)) (lv' := [(2, .int (nI (j_8 + 1))), (0, .ref h), (1, .ref h2)]) hx hb d_X3_copyFrom_69 hl (k := 0) rfl (nI_1 j_8) (by decide) rfl (fun ls hl => ?_)
          refine lv_goto (tgt := 52) hx hb d_X3_copyFrom_72 (by decide) ?_
          exact ih_10 (j_8 + 1) (by first | rfl | omega) (upd f4 (nI j_8 : Int32).toNatClampNeg (0 : Int32))  _ _ _ hP hD hS (lv_sub hl [0, 1, 2] rfl)
      exact key_7 3 0 (by first | rfl | omega) (fun _ => 0)  _ _ _ hP hD hS (lv_sub hl [0, 1, 2] rfl)
    | succ n_3 ih_4 =>
      intro j_2 hj_5 f1 f2 f3  H locs ls hP hD hS hl
      refine lv_iload_n hx hb d_X3_copyFrom_2 rfl (lv_at hl 0 rfl) ?_
      refine lv_bipush (v := 12) hx hb d_X3_copyFrom_3 (by decide) ?_
      refine lv_icmp_ge (tgt := 50) hx hb d_X3_copyFrom_5 (by decide) (fun c_14 => absurd c_14 (mt (nI_leI (a := 12) (b := j_2) (by omega) (by omega)).mp (by omega))) (fun _ => ?_)
      refine lv_aload_n hx hb d_X3_copyFrom_8 rfl (lv_at hl 1 rfl) ?_
      refine va_get (D := D) (ci := 2) (v := .ref w) (C := RX3) (T := TX3) (N := 8) hx hb hg cu_iX3 hown hK.1 hP 0 rfl rfl 0 (by decide) (hg _ k_84) (fun _ h9 => h9) rfl d_X3_copyFrom_9 ?_
      refine lv_iload_n hx hb d_X3_copyFrom_12 rfl (lv_at hl 0 rfl) ?_
      refine lv_aload_n hx hb d_X3_copyFrom_13 rfl (lv_at hl 2 rfl) ?_
      refine va_get (D := D) (ci := 2) (v := .ref w2) (C := RX3) (T := TX3) (N := 8) hx hb hg cu_iX3 hown hK.1 hP 5 rfl rfl 0 (by decide) (hg _ k_84) (fun _ h9 => h9) rfl d_X3_copyFrom_14 ?_
      refine lv_iload_n hx hb d_X3_copyFrom_17 rfl (lv_at hl 0 rfl) ?_
      refine va_iald hx hb hK.1 hP 6 0 rfl rfl (vp_in_nI (by omega) (by decide)) d_X3_copyFrom_18 ?_
      refine cu_topi (y := 0) rfl ?_
      refine va_iast hx hb hK.1 hP hD hS 1 0 rfl rfl (vp_in_nI (by omega) (by decide)) d_X3_copyFrom_19 (fun H locs hP hD hS => ?_)
      have hP : va_P D vwCl [(h, .inr (2, [.ref w, .ref y, .ref a, .ref u, .int 0, .int 0, .int rt, .int lw])), (w, .inl (cI, 12, .inl (upd f1 (nI j_2 : Int32).toNatClampNeg (0 : Int32)))), (y, .inl (cI, 12, .inl f2)), (a, .inl (cI, 12, .inl f3)), (u, .inl (cI, 3, .inl (fun _ => 0))), (h2, .inr (2, [.ref w2, .ref y2, .ref a2, .ref u2, .int 0, .int 0, .int rt2, .int lw2])), (w2, .inl (cI, 12, .inl (fun _ => 0))), (y2, .inl (cI, 12, .inl (fun _ => 0))), (a2, .inl (cI, 12, .inl (fun _ => 0))), (u2, .inl (cI, 3, .inl (fun _ => 0)))] H := hP
      have hD : va_D A [(h, .inr (2, [.ref w, .ref y, .ref a, .ref u, .int 0, .int 0, .int rt, .int lw])), (w, .inl (cI, 12, .inl (upd f1 (nI j_2 : Int32).toNatClampNeg (0 : Int32)))), (y, .inl (cI, 12, .inl f2)), (a, .inl (cI, 12, .inl f3)), (u, .inl (cI, 3, .inl (fun _ => 0))), (h2, .inr (2, [.ref w2, .ref y2, .ref a2, .ref u2, .int 0, .int 0, .int rt2, .int lw2])), (w2, .inl (cI, 12, .inl (fun _ => 0))), (y2, .inl (cI, 12, .inl (fun _ => 0))), (a2, .inl (cI, 12, .inl (fun _ => 0))), (u2, .inl (cI, 3, .inl (fun _ => 0)))] := hD
      refine lv_aload_n hx hb d_X3_copyFrom_20 rfl (lv_at hl 1 rfl) ?_
      refine va_get (D := D) (ci := 2) (v := .ref y) (C := RX3) (T := TX3) (N := 8) hx hb hg cu_iX3 hown hK.1 hP 0 rfl rfl 1 (by decide) (hg _ k_87) (fun _ h9 => h9) rfl d_X3_copyFrom_21 ?_
      refine lv_iload_n hx hb d_X3_copyFrom_24 rfl (lv_at hl 0 rfl) ?_
      refine lv_aload_n hx hb d_X3_copyFrom_25 rfl (lv_at hl 2 rfl) ?_
      refine va_get (D := D) (ci := 2) (v := .ref y2) (C := RX3) (T := TX3) (N := 8) hx hb hg cu_iX3 hown hK.1 hP 5 rfl rfl 1 (by decide) (hg _ k_87) (fun _ h9 => h9) rfl d_X3_copyFrom_26 ?_
      refine lv_iload_n hx hb d_X3_copyFrom_29 rfl (lv_at hl 0 rfl) ?_
      refine va_iald hx hb hK.1 hP 7 0 rfl rfl (vp_in_nI (by omega) (by decide)) d_X3_copyFrom_30 ?_
      refine cu_topi (y := 0) rfl ?_
      refine va_iast hx hb hK.1 hP hD hS 2 0 rfl rfl (vp_in_nI (by omega) (by decide)) d_X3_copyFrom_31 (fun H locs hP hD hS => ?_)
      have hP : va_P D vwCl [(h, .inr (2, [.ref w, .ref y, .ref a, .ref u, .int 0, .int 0, .int rt, .int lw])), (w, .inl (cI, 12, .inl (upd f1 (nI j_2 : Int32).toNatClampNeg (0 : Int32)))), (y, .inl (cI, 12, .inl (upd f2 (nI j_2 : Int32).toNatClampNeg (0 : Int32)))), (a, .inl (cI, 12, .inl f3)), (u, .inl (cI, 3, .inl (fun _ => 0))), (h2, .inr (2, [.ref w2, .ref y2, .ref a2, .ref u2, .int 0, .int 0, .int rt2, .int lw2])), (w2, .inl (cI, 12, .inl (fun _ => 0))), (y2, .inl (cI, 12, .inl (fun _ => 0))), (a2, .inl (cI, 12, .inl (fun _ => 0))), (u2, .inl (cI, 3, .inl (fun _ => 0)))] H := hP
      have hD : va_D A [(h, .inr (2, [.ref w, .ref y, .ref a, .ref u, .int 0, .int 0, .int rt, .int lw])), (w, .inl (cI, 12, .inl (upd f1 (nI j_2 : Int32).toNatClampNeg (0 : Int32)))), (y, .inl (cI, 12, .inl (upd f2 (nI j_2 : Int32).toNatClampNeg (0 : Int32)))), (a, .inl (cI, 12, .inl f3)), (u, .inl (cI, 3, .inl (fun _ => 0))), (h2, .inr (2, [.ref w2, .ref y2, .ref a2, .ref u2, .int 0, .int 0, .int rt2, .int lw2])), (w2, .inl (cI, 12, .inl (fun _ => 0))), (y2, .inl (cI, 12, .inl (fun _ => 0))), (a2, .inl (cI, 12, .inl (fun _ => 0))), (u2, .inl (cI, 3, .inl (fun _ => 0)))] := hD
      refine lv_aload_n hx hb d_X3_copyFrom_32 rfl (lv_at hl 1 rfl) ?_
      refine va_get (D := D) (ci := 2) (v := .ref a) (C := RX3) (T := TX3) (N := 8) hx hb hg cu_iX3 hown hK.1 hP 0 rfl rfl 2 (by decide) (hg _ k_89) (fun _ h9 => h9) rfl d_X3_copyFrom_33 ?_
      refine lv_iload_n hx hb d_X3_copyFrom_36 rfl (lv_at hl 0 rfl) ?_
      refine lv_aload_n hx hb d_X3_copyFrom_37 rfl (lv_at hl 2 rfl) ?_
      refine va_get (D := D) (ci := 2) (v := .ref a2) (C := RX3) (T := TX3) (N := 8) hx hb hg cu_iX3 hown hK.1 hP 5 rfl rfl 2 (by decide) (hg _ k_89) (fun _ h9 => h9) rfl d_X3_copyFrom_38 ?_
      refine lv_iload_n hx hb d_X3_copyFrom_41 rfl (lv_at hl 0 rfl) ?_
      refine va_iald hx hb hK.1 hP 8 0 rfl rfl (vp_in_nI (by omega) (by decide)) d_X3_copyFrom_42 ?_
      refine cu_topi (y := 0) rfl ?_
      refine va_iast hx hb hK.1 hP hD hS 3 0 rfl rfl (vp_in_nI (by omega) (by decide)) d_X3_copyFrom_43 (fun H locs hP hD hS => ?_)
      have hP : va_P D vwCl [(h, .inr (2, [.ref w, .ref y, .ref a, .ref u, .int 0, .int 0, .int rt, .int lw])), (w, .inl (cI, 12, .inl (upd f1 (nI j_2 : Int32).toNatClampNeg (0 : Int32)))), (y, .inl (cI, 12, .inl (upd f2 (nI j_2 : Int32).toNatClampNeg (0 : Int32)))), (a, .inl (cI, 12, .inl (upd f3 (nI j_2 : Int32).toNatClampNeg (0 : Int32)))), (u, .inl (cI, 3, .inl (fun _ => 0))), (h2, .inr (2, [.ref w2, .ref y2, .ref a2, .ref u2, .int 0, .int 0, .int rt2, .int lw2])), (w2, .inl (cI, 12, .inl (fun _ => 0))), (y2, .inl (cI, 12, .inl (fun _ => 0))), (a2, .inl (cI, 12, .inl (fun _ => 0))), (u2, .inl (cI, 3, .inl (fun _ => 0)))] H := hP
      have hD : va_D A [(h, .inr (2, [.ref w, .ref y, .ref a, .ref u, .int 0, .int 0, .int rt, .int lw])), (w, .inl (cI, 12, .inl (upd f1 (nI j_2 : Int32).toNatClampNeg (0 : Int32)))), (y, .inl (cI, 12, .inl (upd f2 (nI j_2 : Int32).toNatClampNeg (0 : Int32)))), (a, .inl (cI, 12, .inl (upd f3 (nI j_2 : Int32).toNatClampNeg (0 : Int32)))), (u, .inl (cI, 3, .inl (fun _ => 0))), (h2, .inr (2, [.ref w2, .ref y2, .ref a2, .ref u2, .int 0, .int 0, .int rt2, .int lw2])), (w2, .inl (cI, 12, .inl (fun _ => 0))), (y2, .inl (cI, 12, .inl (fun _ => 0))), (a2, .inl (cI, 12, .inl (fun _ => 0))), (u2, .inl (cI, 3, .inl (fun _ => 0)))] := hD
      refine lv_iinc (v := nI (j_2 + 1)) (lv' := [(2, .int (nI (j_2 + 1))), (0, .ref h), (1, .ref h2)]) hx hb d_X3_copyFrom_44 hl (k := 0) rfl (nI_1 j_2) (by decide) rfl (fun ls hl => ?_)
      refine lv_goto (tgt := 2) hx hb d_X3_copyFrom_47 (by decide) ?_
      exact ih_4 (j_2 + 1) (by first | rfl | omega) (upd f1 (nI j_2 : Int32).toNatClampNeg (0 : Int32)) (upd f2 (nI j_2 : Int32).toNatClampNeg (0 : Int32)) (upd f3 (nI j_2 : Int32).toNatClampNeg (0 : Int32))  _ _ _ hP hD hS (lv_sub hl [0, 1, 2] rfl)
  exact key_1 12 0 (by first | rfl | omega) (fun _ => 0) (fun _ => 0) (fun _ => 0)  _ _ _ hP hD hS (lv_sub hl [0, 1, 2] rfl)
def cu_skp (c1 : Int32) : Int32 := if c1 < 0 then (-1) else if c1 < 2 then 0 else (-1)
set_option maxHeartbeats 4000000 in
set_option maxRecDepth 100000 in
theorem c_X8_keep (l : Launch) (D : va_G) (cI cZ cQ : ClassId) (x tx nw sp ac cr sg sl fl : Nat) (n1 n2 n3 n4 h0 a1 a2 a3 a4 h1 b1 b2 b3 b4 : Nat) (c1 : Int32) : cu_W l D (cu_TY cI cZ cQ) yX8_keep cX8_keep 2 .int 1 22 0 0 [.ref x, .int c1] [(x, .inr (6, [.ref tx, .ref nw, .ref sp, .ref ac, .ref cr, .ref sg, .ref sl, .ref fl, .null, .long 0])), (nw, .inr (2, [.ref n1, .ref n2, .ref n3, .ref n4, .int 0, .int 0, .int 1, .int 0])), (n1, .inl (cI, 12, .inl (fun _ => 0))), (n2, .inl (cI, 12, .inl (fun _ => 0))), (n3, .inl (cI, 12, .inl (fun _ => 0))), (n4, .inl (cI, 3, .inl (fun _ => 0))), (sl, .inl (cQ, 2, .inr (.inr (.inr (.inr (va_up (va_up (fun _ => none) 0 (some h0)) 1 (some h1))))))), (h0, .inr (2, [.ref a1, .ref a2, .ref a3, .ref a4, .int 0, .int 0, .int 1, .int 0])), (a1, .inl (cI, 12, .inl (fun _ => 0))), (a2, .inl (cI, 12, .inl (fun _ => 0))), (a3, .inl (cI, 12, .inl (fun _ => 0))), (a4, .inl (cI, 3, .inl (fun _ => 0))), (h1, .inr (2, [.ref b1, .ref b2, .ref b3, .ref b4, .int 0, .int 0, .int 1, .int 0])), (b1, .inl (cI, 12, .inl (fun _ => 0))), (b2, .inl (cI, 12, .inl (fun _ => 0))), (b3, .inl (cI, 12, .inl (fun _ => 0))), (b4, .inl (cI, 3, .inl (fun _ => 0))), (fl, .inl (cZ, 2, .inl (fun _ => 0)))] (fun r ww => (r = cu_skp c1) ∧ ww = []) := by
  refine cu_W.intro (by decide) (Nat.le_of_ble_eq_true rfl) ?_
  intro p e s m args below meth c Q ls A S hret hP hD hS hA hK hl
  obtain ⟨hx, hb, hml, hown, hg⟩ := S
  have hown : s.vm.findClass RX8 = some m.cls := hown
  have hl : lv_has ls 2 [(0, .ref x), (1, .int c1)] := hl
  refine lv_iload_n hx hb d_X8_keep_0 rfl (lv_at hl 1 rfl) ?_
  refine lv_if_lt (tgt := 9) hx hb d_X8_keep_1 (by decide) (fun c_1 => ?_) (fun c_1 => ?_)
  · skip
    refine lv_iconst (v := (-1)) hx hb d_X8_keep_9 (by decide) ?_
    exact hret _ _ _ _ [] _ _ _ (hP.sub (ws' := []) [] rfl) (hD.sub (ws' := []) [] (by decide) rfl) hS (Nat.le_of_ble_eq_true rfl) (Nat.le_of_ble_eq_true rfl) d_X8_keep_10 (rfl) ⟨by unfold cu_skp; rw [if_pos c_1], rfl⟩
  · skip
    refine lv_iload_n hx hb d_X8_keep_4 rfl (lv_at hl 1 rfl) ?_
    refine lv_iconst (v := 2) hx hb d_X8_keep_5 (by decide) ?_
    refine lv_icmp_lt (tgt := 11) hx hb d_X8_keep_6 (by decide) (fun c_2 => ?_) (fun c_2 => ?_)
    · skip
      rcases cu_two c_1 c_2 with e9 | e9
      · skip
        subst e9
        refine lv_aload_n hx hb d_X8_keep_11 rfl (lv_at hl 0 rfl) ?_
        refine va_get (D := D) (ci := 6) (v := .ref sl) (C := RX8) (T := TX8) (N := 10) hx hb hg cu_iX8 hown hK.1 hP 0 rfl rfl 6 (by decide) (hg _ k_185) (fun _ h9 => h9) rfl d_X8_keep_12 ?_
        refine lv_iload_n hx hb d_X8_keep_15 rfl (lv_at hl 1 rfl) ?_
        refine va_aldq hx hb hK.1 hP 6 2 rfl rfl (vp_in_nI (n := 0) (N := 2) (Nat.le_of_ble_eq_true rfl) (by decide)) d_X8_keep_16 ?_
        refine cu_topv (y := .ref h0) (rfl) ?_
        refine lv_aload_n hx hb d_X8_keep_17 rfl (lv_at hl 0 rfl) ?_
        refine va_get (D := D) (ci := 6) (v := .ref nw) (C := RX8) (T := TX8) (N := 10) hx hb hg cu_iX8 hown hK.1 hP 0 rfl rfl 1 (by decide) (hg _ k_180) (fun _ h9 => h9) rfl d_X8_keep_18 ?_
        refine cu_VV (wc := [(h0, .inr (2, [.ref a1, .ref a2, .ref a3, .ref a4, .int 0, .int 0, .int 1, .int 0])), (a1, .inl (cI, 12, .inl (fun _ => 0))), (a2, .inl (cI, 12, .inl (fun _ => 0))), (a3, .inl (cI, 12, .inl (fun _ => 0))), (a4, .inl (cI, 3, .inl (fun _ => 0))), (nw, .inr (2, [.ref n1, .ref n2, .ref n3, .ref n4, .int 0, .int 0, .int 1, .int 0])), (n1, .inl (cI, 12, .inl (fun _ => 0))), (n2, .inl (cI, 12, .inl (fun _ => 0))), (n3, .inl (cI, 12, .inl (fun _ => 0))), (n4, .inl (cI, 3, .inl (fun _ => 0)))]) (wr := [(x, .inr (6, [.ref tx, .ref nw, .ref sp, .ref ac, .ref cr, .ref sg, .ref sl, .ref fl, .null, .long 0])), (sl, .inl (cQ, 2, .inr (.inr (.inr (.inr (va_up (va_up (fun _ => none) 0 (some h0)) 1 (some h1))))))), (h1, .inr (2, [.ref b1, .ref b2, .ref b3, .ref b4, .int 0, .int 0, .int 1, .int 0])), (b1, .inl (cI, 12, .inl (fun _ => 0))), (b2, .inl (cI, 12, .inl (fun _ => 0))), (b3, .inl (cI, 12, .inl (fun _ => 0))), (b4, .inl (cI, 3, .inl (fun _ => 0))), (fl, .inl (cZ, 2, .inl (fun _ => 0)))]) (rest := []) [.ref nw] ⟨hx, hb, hml, hown, hg⟩ (c_X3_copyFrom l D cI cZ cQ h0 a1 a2 a3 a4 nw n1 n2 n3 n4 1 0 1 0) hd_X3_copyFrom k_269 k_266 k_267 k_268 k_45 ⟨Nat.le_of_ble_eq_true rfl, Nat.le_of_ble_eq_true rfl⟩ ⟨Nat.le_of_ble_eq_true rfl, Nat.le_of_ble_eq_true rfl⟩ hP hD hS hA hK [7, 8, 9, 10, 11, 1, 2, 3, 4, 5] [0, 6, 12, 13, 14, 15, 16, 17] rfl rfl (by decide) (by decide) (by decide) 0 rfl rfl rfl hl.1 rfl (Nat.le_of_ble_eq_true rfl) d_X8_keep_21 (fun w_5 H locs hw_4 hP hD hS => ?_)
        subst hw_4
        have hP : va_P D vwCl [(x, .inr (6, [.ref tx, .ref nw, .ref sp, .ref ac, .ref cr, .ref sg, .ref sl, .ref fl, .null, .long 0])), (sl, .inl (cQ, 2, .inr (.inr (.inr (.inr (va_up (va_up (fun _ => none) 0 (some h0)) 1 (some h1))))))), (h1, .inr (2, [.ref b1, .ref b2, .ref b3, .ref b4, .int 0, .int 0, .int 1, .int 0])), (b1, .inl (cI, 12, .inl (fun _ => 0))), (b2, .inl (cI, 12, .inl (fun _ => 0))), (b3, .inl (cI, 12, .inl (fun _ => 0))), (b4, .inl (cI, 3, .inl (fun _ => 0))), (fl, .inl (cZ, 2, .inl (fun _ => 0))), (h0, .inr (2, [.ref a1, .ref a2, .ref a3, .ref a4, .int 0, .int 0, .int 1, .int 0])), (nw, .inr (2, [.ref n1, .ref n2, .ref n3, .ref n4, .int 0, .int 0, .int 1, .int 0]))] H := hP
        have hD : va_D A [(x, .inr (6, [.ref tx, .ref nw, .ref sp, .ref ac, .ref cr, .ref sg, .ref sl, .ref fl, .null, .long 0])), (sl, .inl (cQ, 2, .inr (.inr (.inr (.inr (va_up (va_up (fun _ => none) 0 (some h0)) 1 (some h1))))))), (h1, .inr (2, [.ref b1, .ref b2, .ref b3, .ref b4, .int 0, .int 0, .int 1, .int 0])), (b1, .inl (cI, 12, .inl (fun _ => 0))), (b2, .inl (cI, 12, .inl (fun _ => 0))), (b3, .inl (cI, 12, .inl (fun _ => 0))), (b4, .inl (cI, 3, .inl (fun _ => 0))), (fl, .inl (cZ, 2, .inl (fun _ => 0))), (h0, .inr (2, [.ref a1, .ref a2, .ref a3, .ref a4, .int 0, .int 0, .int 1, .int 0])), (nw, .inr (2, [.ref n1, .ref n2, .ref n3, .ref n4, .int 0, .int 0, .int 1, .int 0]))] := hD
        refine lv_aload_n hx hb d_X8_keep_24 rfl (lv_at hl 0 rfl) ?_
        refine va_get (D := D) (ci := 6) (v := .ref fl) (C := RX8) (T := TX8) (N := 10) hx hb hg cu_iX8 hown hK.1 hP 0 rfl rfl 7 (by decide) (hg _ k_186) (fun _ h9 => h9) rfl d_X8_keep_25 ?_
        refine lv_iload_n hx hb d_X8_keep_28 rfl (lv_at hl 1 rfl) ?_
        refine lv_iconst (v := 1) hx hb d_X8_keep_29 (by decide) ?_
        refine va_zast hx hb hK.1 hP hD hS 7 1 rfl rfl (vp_in_nI (n := 0) (N := 2) (Nat.le_of_ble_eq_true rfl) (by decide)) d_X8_keep_30 (fun H locs hP hD hS => ?_)
        have hP : va_P D vwCl [(x, .inr (6, [.ref tx, .ref nw, .ref sp, .ref ac, .ref cr, .ref sg, .ref sl, .ref fl, .null, .long 0])), (sl, .inl (cQ, 2, .inr (.inr (.inr (.inr (va_up (va_up (fun _ => none) 0 (some h0)) 1 (some h1))))))), (h1, .inr (2, [.ref b1, .ref b2, .ref b3, .ref b4, .int 0, .int 0, .int 1, .int 0])), (b1, .inl (cI, 12, .inl (fun _ => 0))), (b2, .inl (cI, 12, .inl (fun _ => 0))), (b3, .inl (cI, 12, .inl (fun _ => 0))), (b4, .inl (cI, 3, .inl (fun _ => 0))), (fl, .inl (cZ, 2, .inl (upd (fun _ => 0) 0 (vp_nar .boolean (1 : Int32))))), (h0, .inr (2, [.ref a1, .ref a2, .ref a3, .ref a4, .int 0, .int 0, .int 1, .int 0])), (nw, .inr (2, [.ref n1, .ref n2, .ref n3, .ref n4, .int 0, .int 0, .int 1, .int 0]))] H := hP
        have hD : va_D A [(x, .inr (6, [.ref tx, .ref nw, .ref sp, .ref ac, .ref cr, .ref sg, .ref sl, .ref fl, .null, .long 0])), (sl, .inl (cQ, 2, .inr (.inr (.inr (.inr (va_up (va_up (fun _ => none) 0 (some h0)) 1 (some h1))))))), (h1, .inr (2, [.ref b1, .ref b2, .ref b3, .ref b4, .int 0, .int 0, .int 1, .int 0])), (b1, .inl (cI, 12, .inl (fun _ => 0))), (b2, .inl (cI, 12, .inl (fun _ => 0))), (b3, .inl (cI, 12, .inl (fun _ => 0))), (b4, .inl (cI, 3, .inl (fun _ => 0))), (fl, .inl (cZ, 2, .inl (upd (fun _ => 0) 0 (vp_nar .boolean (1 : Int32))))), (h0, .inr (2, [.ref a1, .ref a2, .ref a3, .ref a4, .int 0, .int 0, .int 1, .int 0])), (nw, .inr (2, [.ref n1, .ref n2, .ref n3, .ref n4, .int 0, .int 0, .int 1, .int 0]))] := hD
        refine lv_aload_n hx hb d_X8_keep_31 rfl (lv_at hl 0 rfl) ?_
        refine va_get (D := D) (ci := 6) (v := .ref nw) (C := RX8) (T := TX8) (N := 10) hx hb hg cu_iX8 hown hK.1 hP 0 rfl rfl 1 (by decide) (hg _ k_180) (fun _ h9 => h9) rfl d_X8_keep_32 ?_
        refine va_get (D := D) (ci := 2) (v := .int 0) (C := RX3) (T := TX3) (N := 8) hx hb hg cu_iX3 hown hK.1 hP 9 rfl rfl 4 (by decide) (hg _ k_96) (fun _ h9 => h9) rfl d_X8_keep_35 ?_
        exact hret _ _ _ _ [] _ _ _ (hP.sub (ws' := []) [] rfl) (hD.sub (ws' := []) [] (by decide) rfl) hS (Nat.le_of_ble_eq_true rfl) (Nat.le_of_ble_eq_true rfl) d_X8_keep_38 (rfl) ⟨by unfold cu_skp; rw [if_neg c_1, if_pos c_2], rfl⟩
      · skip
        subst e9
        refine lv_aload_n hx hb d_X8_keep_11 rfl (lv_at hl 0 rfl) ?_
        refine va_get (D := D) (ci := 6) (v := .ref sl) (C := RX8) (T := TX8) (N := 10) hx hb hg cu_iX8 hown hK.1 hP 0 rfl rfl 6 (by decide) (hg _ k_185) (fun _ h9 => h9) rfl d_X8_keep_12 ?_
        refine lv_iload_n hx hb d_X8_keep_15 rfl (lv_at hl 1 rfl) ?_
        refine va_aldq hx hb hK.1 hP 6 2 rfl rfl (vp_in_nI (n := 1) (N := 2) (Nat.le_of_ble_eq_true rfl) (by decide)) d_X8_keep_16 ?_
        refine cu_topv (y := .ref h1) (rfl) ?_
        refine lv_aload_n hx hb d_X8_keep_17 rfl (lv_at hl 0 rfl) ?_
        refine va_get (D := D) (ci := 6) (v := .ref nw) (C := RX8) (T := TX8) (N := 10) hx hb hg cu_iX8 hown hK.1 hP 0 rfl rfl 1 (by decide) (hg _ k_180) (fun _ h9 => h9) rfl d_X8_keep_18 ?_
        refine cu_VV (wc := [(h1, .inr (2, [.ref b1, .ref b2, .ref b3, .ref b4, .int 0, .int 0, .int 1, .int 0])), (b1, .inl (cI, 12, .inl (fun _ => 0))), (b2, .inl (cI, 12, .inl (fun _ => 0))), (b3, .inl (cI, 12, .inl (fun _ => 0))), (b4, .inl (cI, 3, .inl (fun _ => 0))), (nw, .inr (2, [.ref n1, .ref n2, .ref n3, .ref n4, .int 0, .int 0, .int 1, .int 0])), (n1, .inl (cI, 12, .inl (fun _ => 0))), (n2, .inl (cI, 12, .inl (fun _ => 0))), (n3, .inl (cI, 12, .inl (fun _ => 0))), (n4, .inl (cI, 3, .inl (fun _ => 0)))]) (wr := [(x, .inr (6, [.ref tx, .ref nw, .ref sp, .ref ac, .ref cr, .ref sg, .ref sl, .ref fl, .null, .long 0])), (sl, .inl (cQ, 2, .inr (.inr (.inr (.inr (va_up (va_up (fun _ => none) 0 (some h0)) 1 (some h1))))))), (h0, .inr (2, [.ref a1, .ref a2, .ref a3, .ref a4, .int 0, .int 0, .int 1, .int 0])), (a1, .inl (cI, 12, .inl (fun _ => 0))), (a2, .inl (cI, 12, .inl (fun _ => 0))), (a3, .inl (cI, 12, .inl (fun _ => 0))), (a4, .inl (cI, 3, .inl (fun _ => 0))), (fl, .inl (cZ, 2, .inl (fun _ => 0)))]) (rest := []) [.ref nw] ⟨hx, hb, hml, hown, hg⟩ (c_X3_copyFrom l D cI cZ cQ h1 b1 b2 b3 b4 nw n1 n2 n3 n4 1 0 1 0) hd_X3_copyFrom k_269 k_266 k_267 k_268 k_45 ⟨Nat.le_of_ble_eq_true rfl, Nat.le_of_ble_eq_true rfl⟩ ⟨Nat.le_of_ble_eq_true rfl, Nat.le_of_ble_eq_true rfl⟩ hP hD hS hA hK [12, 13, 14, 15, 16, 1, 2, 3, 4, 5] [0, 6, 7, 8, 9, 10, 11, 17] rfl rfl (by decide) (by decide) (by decide) 0 rfl rfl rfl hl.1 rfl (Nat.le_of_ble_eq_true rfl) d_X8_keep_21 (fun w_8 H locs hw_7 hP hD hS => ?_)
        subst hw_7
        have hP : va_P D vwCl [(x, .inr (6, [.ref tx, .ref nw, .ref sp, .ref ac, .ref cr, .ref sg, .ref sl, .ref fl, .null, .long 0])), (sl, .inl (cQ, 2, .inr (.inr (.inr (.inr (va_up (va_up (fun _ => none) 0 (some h0)) 1 (some h1))))))), (h0, .inr (2, [.ref a1, .ref a2, .ref a3, .ref a4, .int 0, .int 0, .int 1, .int 0])), (a1, .inl (cI, 12, .inl (fun _ => 0))), (a2, .inl (cI, 12, .inl (fun _ => 0))), (a3, .inl (cI, 12, .inl (fun _ => 0))), (a4, .inl (cI, 3, .inl (fun _ => 0))), (fl, .inl (cZ, 2, .inl (fun _ => 0))), (h1, .inr (2, [.ref b1, .ref b2, .ref b3, .ref b4, .int 0, .int 0, .int 1, .int 0])), (nw, .inr (2, [.ref n1, .ref n2, .ref n3, .ref n4, .int 0, .int 0, .int 1, .int 0]))] H := hP
        have hD : va_D A [(x, .inr (6, [.ref tx, .ref nw, .ref sp, .ref ac, .ref cr, .ref sg, .ref sl, .ref fl, .null, .long 0])), (sl, .inl (cQ, 2, .inr (.inr (.inr (.inr (va_up (va_up (fun _ => none) 0 (some h0)) 1 (some h1))))))), (h0, .inr (2, [.ref a1, .ref a2, .ref a3, .ref a4, .int 0, .int 0, .int 1, .int 0])), (a1, .inl (cI, 12, .inl (fun _ => 0))), (a2, .inl (cI, 12, .inl (fun _ => 0))), (a3, .inl (cI, 12, .inl (fun _ => 0))), (a4, .inl (cI, 3, .inl (fun _ => 0))), (fl, .inl (cZ, 2, .inl (fun _ => 0))), (h1, .inr (2, [.ref b1, .ref b2, .ref b3, .ref b4, .int 0, .int 0, .int 1, .int 0])), (nw, .inr (2, [.ref n1, .ref n2, .ref n3, .ref n4, .int 0, .int 0, .int 1, .int 0]))] := hD
        refine lv_aload_n hx hb d_X8_keep_24 rfl (lv_at hl 0 rfl) ?_
        refine va_get (D := D) (ci := 6) (v := .ref fl) (C := RX8) (T := TX8) (N := 10) hx hb hg cu_iX8 hown hK.1 hP 0 rfl rfl 7 (by decide) (hg _ k_186) (fun _ h9 => h9) rfl d_X8_keep_25 ?_
        refine lv_iload_n hx hb d_X8_keep_28 rfl (lv_at hl 1 rfl) ?_
        refine lv_iconst (v := 1) hx hb d_X8_keep_29 (by decide) ?_
        refine va_zast hx hb hK.1 hP hD hS 7 1 rfl rfl (vp_in_nI (n := 1) (N := 2) (Nat.le_of_ble_eq_true rfl) (by decide)) d_X8_keep_30 (fun H locs hP hD hS => ?_)
        have hP : va_P D vwCl [(x, .inr (6, [.ref tx, .ref nw, .ref sp, .ref ac, .ref cr, .ref sg, .ref sl, .ref fl, .null, .long 0])), (sl, .inl (cQ, 2, .inr (.inr (.inr (.inr (va_up (va_up (fun _ => none) 0 (some h0)) 1 (some h1))))))), (h0, .inr (2, [.ref a1, .ref a2, .ref a3, .ref a4, .int 0, .int 0, .int 1, .int 0])), (a1, .inl (cI, 12, .inl (fun _ => 0))), (a2, .inl (cI, 12, .inl (fun _ => 0))), (a3, .inl (cI, 12, .inl (fun _ => 0))), (a4, .inl (cI, 3, .inl (fun _ => 0))), (fl, .inl (cZ, 2, .inl (upd (fun _ => 0) 1 (vp_nar .boolean (1 : Int32))))), (h1, .inr (2, [.ref b1, .ref b2, .ref b3, .ref b4, .int 0, .int 0, .int 1, .int 0])), (nw, .inr (2, [.ref n1, .ref n2, .ref n3, .ref n4, .int 0, .int 0, .int 1, .int 0]))] H := hP
        have hD : va_D A [(x, .inr (6, [.ref tx, .ref nw, .ref sp, .ref ac, .ref cr, .ref sg, .ref sl, .ref fl, .null, .long 0])), (sl, .inl (cQ, 2, .inr (.inr (.inr (.inr (va_up (va_up (fun _ => none) 0 (some h0)) 1 (some h1))))))), (h0, .inr (2, [.ref a1, .ref a2, .ref a3, .ref a4, .int 0, .int 0, .int 1, .int 0])), (a1, .inl (cI, 12, .inl (fun _ => 0))), (a2, .inl (cI, 12, .inl (fun _ => 0))), (a3, .inl (cI, 12, .inl (fun _ => 0))), (a4, .inl (cI, 3, .inl (fun _ => 0))), (fl, .inl (cZ, 2, .inl (upd (fun _ => 0) 1 (vp_nar .boolean (1 : Int32))))), (h1, .inr (2, [.ref b1, .ref b2, .ref b3, .ref b4, .int 0, .int 0, .int 1, .int 0])), (nw, .inr (2, [.ref n1, .ref n2, .ref n3, .ref n4, .int 0, .int 0, .int 1, .int 0]))] := hD
        refine lv_aload_n hx hb d_X8_keep_31 rfl (lv_at hl 0 rfl) ?_
        refine va_get (D := D) (ci := 6) (v := .ref nw) (C := RX8) (T := TX8) (N := 10) hx hb hg cu_iX8 hown hK.1 hP 0 rfl rfl 1 (by decide) (hg _ k_180) (fun _ h9 => h9) rfl d_X8_keep_32 ?_
        refine va_get (D := D) (ci := 2) (v := .int 0) (C := RX3) (T := TX3) (N := 8) hx hb hg cu_iX3 hown hK.1 hP 9 rfl rfl 4 (by decide) (hg _ k_96) (fun _ h9 => h9) rfl d_X8_keep_35 ?_
        exact hret _ _ _ _ [] _ _ _ (hP.sub (ws' := []) [] rfl) (hD.sub (ws' := []) [] (by decide) rfl) hS (Nat.le_of_ble_eq_true rfl) (Nat.le_of_ble_eq_true rfl) d_X8_keep_38 (rfl) ⟨by unfold cu_skp; rw [if_neg c_1, if_pos c_2], rfl⟩
    · skip
      refine lv_iconst (v := (-1)) hx hb d_X8_keep_9 (by decide) ?_
      exact hret _ _ _ _ [] _ _ _ (hP.sub (ws' := []) [] rfl) (hD.sub (ws' := []) [] (by decide) rfl) hS (Nat.le_of_ble_eq_true rfl) (Nat.le_of_ble_eq_true rfl) d_X8_keep_10 (rfl) ⟨by unfold cu_skp; rw [if_neg c_1, if_neg c_2], rfl⟩
def cu_sdr (c1 : Int32) : Int32 := if c1 < 1 then (-2) else if 20 < c1 then (-2) else 0
set_option maxHeartbeats 4000000 in
set_option maxRecDepth 100000 in
theorem c_X8_drawn (l : Launch) (D : va_G) (cI cZ cQ : ClassId) (x tx nw sp ac cr sg sl fl : Nat) (w y a u : Nat) (c1 : Int32) : cu_W l D (cu_TY cI cZ cQ) yX8_drawn cX8_drawn 4 .int 2 46 0 0 [.ref x, .int c1] [(x, .inr (6, [.ref tx, .ref nw, .ref sp, .ref ac, .ref cr, .ref sg, .ref sl, .ref fl, .null, .long 0])), (nw, .inr (2, [.ref w, .ref y, .ref a, .ref u, .int 0, .int 0, .int 1, .int 0]))] (fun r ww => (r = cu_sdr c1) ∧ ww = []) := by
  refine cu_W.intro (by decide) (Nat.le_of_ble_eq_true rfl) ?_
  intro p e s m args below meth c Q ls A S hret hP hD hS hA hK hl
  obtain ⟨hx, hb, hml, hown, hg⟩ := S
  have hown : s.vm.findClass RX8 = some m.cls := hown
  have hl : lv_has ls 4 [(0, .ref x), (1, .int c1)] := hl
  refine lv_iload_n hx hb d_X8_drawn_0 rfl (lv_at hl 1 rfl) ?_
  refine lv_iconst (v := 1) hx hb d_X8_drawn_1 (by decide) ?_
  refine lv_icmp_lt (tgt := 11) hx hb d_X8_drawn_2 (by decide) (fun c_1 => ?_) (fun c_1 => ?_)
  · skip
    refine lv_bipush (v := (-2)) hx hb d_X8_drawn_11 (by decide) ?_
    exact hret _ _ _ _ [] _ _ _ (hP.sub (ws' := []) [] rfl) (hD.sub (ws' := []) [] (by decide) rfl) hS (Nat.le_of_ble_eq_true rfl) (Nat.le_of_ble_eq_true rfl) d_X8_drawn_13 (rfl) ⟨by unfold cu_sdr; rw [if_pos c_1], rfl⟩
  · skip
    refine lv_iload_n hx hb d_X8_drawn_5 rfl (lv_at hl 1 rfl) ?_
    refine lv_bipush (v := 20) hx hb d_X8_drawn_6 (by decide) ?_
    refine lv_icmp_le (tgt := 14) hx hb d_X8_drawn_8 (by decide) (fun c_2 => ?_) (fun c_2 => ?_)
    · skip
      obtain ⟨k9, hk9, e9⟩ := cu_nat 1 20 (by decide) (by decide) c_1 (Int32.not_lt.mpr c_2)
      subst e9
      refine lv_iconst (v := 0) hx hb d_X8_drawn_14 (by decide) ?_
      refine lv_istore_n (lv' := [(2, .int 0), (0, .ref x), (1, .int (nI k9))]) hx hb d_X8_drawn_15 rfl hl (by decide) rfl (fun ls hl => ?_)
      refine lv_iconst (v := 0) hx hb d_X8_drawn_16 (by decide) ?_
      refine lv_istore_n (lv' := [(3, .int 0), (2, .int 0), (0, .ref x), (1, .int (nI k9))]) hx hb d_X8_drawn_17 rfl hl (by decide) rfl (fun ls hl => ?_)
      have key_3 : ∀ (n_5 j_4 : Nat) (hj_7 : j_4 + n_5 = k9) (sv : Int64)  (H : Heap) (locs : List Loc) (ls : Array Slot) (hP : va_P D vwCl [(x, .inr (6, [.ref tx, .ref nw, .ref sp, .ref ac, .ref cr, .ref sg, .ref sl, .ref fl, .null, .long sv])), (nw, .inr (2, [.ref w, .ref y, .ref a, .ref u, .int 0, .int 0, .int 1, .int 0]))] H) (hD : va_D A [(x, .inr (6, [.ref tx, .ref nw, .ref sp, .ref ac, .ref cr, .ref sg, .ref sl, .ref fl, .null, .long sv])), (nw, .inr (2, [.ref w, .ref y, .ref a, .ref u, .int 0, .int 0, .int 1, .int 0]))]) (hS : va_S A s.heap H locs) (hl : lv_has ls 4 [(3, .int (nI j_4)), (2, .int 0), (0, .ref x), (1, .int (nI k9))]), W p l e (cu_rm 2 46 0 0) s m args below meth c H locs 0 0 Q (F0 m 18 ls []) := by
        intro n_5
        induction n_5 with
        | zero =>
          intro j_4 hj_7 sv  H locs ls hP hD hS hl
          obtain rfl : k9 = j_4 := by omega
          have hl : lv_has ls 4 [(3, .int (nI k9)), (2, .int 0), (0, .ref x), (1, .int (nI k9))] := hl
          have hP : va_P D vwCl [(x, .inr (6, [.ref tx, .ref nw, .ref sp, .ref ac, .ref cr, .ref sg, .ref sl, .ref fl, .null, .long sv])), (nw, .inr (2, [.ref w, .ref y, .ref a, .ref u, .int 0, .int 0, .int 1, .int 0]))] H := hP
          have hD : va_D A [(x, .inr (6, [.ref tx, .ref nw, .ref sp, .ref ac, .ref cr, .ref sg, .ref sl, .ref fl, .null, .long sv])), (nw, .inr (2, [.ref w, .ref y, .ref a, .ref u, .int 0, .int 0, .int 1, .int 0]))] := hD
          refine lv_iload_n hx hb d_X8_drawn_18 rfl (lv_at hl 0 rfl) ?_
          refine lv_iload_n hx hb d_X8_drawn_19 rfl (lv_at hl 3 rfl) ?_
          refine lv_icmp_ge (tgt := 66) hx hb d_X8_drawn_20 (by decide) (fun _ => ?_) (fun c_8 => absurd (Int32.le_refl _) c_8)
          refine lv_iload_n hx hb d_X8_drawn_66 rfl (lv_at hl 1 rfl) ?_
          exact hret _ _ _ _ [] _ _ _ (hP.sub (ws' := []) [] rfl) (hD.sub (ws' := []) [] (by decide) rfl) hS (Nat.le_of_ble_eq_true rfl) (Nat.le_of_ble_eq_true rfl) d_X8_drawn_67 (rfl) ⟨by unfold cu_sdr; rw [if_neg c_1, if_neg (Int32.not_lt.mpr c_2)], rfl⟩
        | succ n_5 ih_6 =>
          intro j_4 hj_7 sv  H locs ls hP hD hS hl
          refine lv_iload_n hx hb d_X8_drawn_18 rfl (lv_at hl 0 rfl) ?_
          refine lv_iload_n hx hb d_X8_drawn_19 rfl (lv_at hl 3 rfl) ?_
          refine lv_icmp_ge (tgt := 66) hx hb d_X8_drawn_20 (by decide) (fun c_9 => absurd c_9 (mt (nI_leI (by omega) (by omega)).mp (by omega))) (fun _ => ?_)
          refine lv_aload_n hx hb d_X8_drawn_23 rfl (lv_at hl 2 rfl) ?_
          refine lv_aload_n hx hb d_X8_drawn_24 rfl (lv_at hl 2 rfl) ?_
          refine va_get (D := D) (ci := 6) (v := .long sv) (C := RX8) (T := TX8) (N := 10) hx hb hg cu_iX8 hown hK.1 hP 0 rfl rfl 9 (by decide) (hg _ k_188) (fun _ h9 => h9) rfl d_X8_drawn_25 ?_
          refine lv_ldc2 (v := 6364136223846793005) hx hb hown (hg _ k_654) d_X8_drawn_28 ?_
          refine lv_lmul hx hb d_X8_drawn_31 ?_
          refine lv_ldc2 (v := 1442695040888963407) hx hb hown (hg _ k_655) d_X8_drawn_32 ?_
          refine lv_ladd hx hb d_X8_drawn_35 ?_
          refine va_put (D := D) (ci := 6) (v := .long ((sv * 6364136223846793005) + 1442695040888963407)) (ty := .long) (C := RX8) (T := TX8) (N := 10) hx hb hg cu_iX8 tyX8 tyX8_ok nmX8 hown hK.1 hP hD hS 0 rfl rfl 9 (by decide) (hg _ k_188) (fun _ h9 => h9) rfl (by decide +kernel) rfl rfl (Nat.le_of_ble_eq_true rfl) d_X8_drawn_36 (fun H locs hP hD hS => ?_)
          have hP : va_P D vwCl [(x, .inr (6, [.ref tx, .ref nw, .ref sp, .ref ac, .ref cr, .ref sg, .ref sl, .ref fl, .null, .long ((sv * 6364136223846793005) + 1442695040888963407)])), (nw, .inr (2, [.ref w, .ref y, .ref a, .ref u, .int 0, .int 0, .int 1, .int 0]))] H := hP
          have hD : va_D A [(x, .inr (6, [.ref tx, .ref nw, .ref sp, .ref ac, .ref cr, .ref sg, .ref sl, .ref fl, .null, .long ((sv * 6364136223846793005) + 1442695040888963407)])), (nw, .inr (2, [.ref w, .ref y, .ref a, .ref u, .int 0, .int 0, .int 1, .int 0]))] := hD
          refine lv_aload_n hx hb d_X8_drawn_39 rfl (lv_at hl 2 rfl) ?_
          refine va_get (D := D) (ci := 6) (v := .ref nw) (C := RX8) (T := TX8) (N := 10) hx hb hg cu_iX8 hown hK.1 hP 0 rfl rfl 1 (by decide) (hg _ k_180) (fun _ h9 => h9) rfl d_X8_drawn_40 ?_
          refine lv_aload_n hx hb d_X8_drawn_43 rfl (lv_at hl 2 rfl) ?_
          refine va_get (D := D) (ci := 6) (v := .long ((sv * 6364136223846793005) + 1442695040888963407)) (C := RX8) (T := TX8) (N := 10) hx hb hg cu_iX8 hown hK.1 hP 0 rfl rfl 9 (by decide) (hg _ k_188) (fun _ h9 => h9) rfl d_X8_drawn_44 ?_
          refine lv_bipush (v := 33) hx hb d_X8_drawn_47 (by decide) ?_
          refine lv_lushr (v := (((sv * 6364136223846793005) + 1442695040888963407).toUInt64 >>> (((33 : Int32)).toInt64.toUInt64 &&& Int64.toUInt64 63)).toInt64) hx hb d_X8_drawn_49 rfl ?_
          refine lv_topl (fun g_10 _ => ?_)
          refine lv_l2i (v := g_10.toInt32) hx hb d_X8_drawn_50 rfl ?_
          refine cu_VR (wc := [(nw, .inr (2, [.ref w, .ref y, .ref a, .ref u, .int 0, .int 0, .int 1, .int 0]))]) (rest := []) [.int g_10.toInt32] ⟨hx, hb, hml, hown, hg⟩ (c_X3_recognizes l D cI cZ cQ nw w y a u 1 0 g_10.toInt32) hd_X3_recognizes k_659 k_656 k_657 k_658 k_45 ⟨Nat.le_of_ble_eq_true rfl, Nat.le_of_ble_eq_true rfl⟩ ⟨Nat.le_of_ble_eq_true rfl, Nat.le_of_ble_eq_true rfl⟩ hP hK [1] rfl 0 rfl rfl rfl hl.1 rfl (Nat.le_of_ble_eq_true rfl) d_X8_drawn_51 (fun r_11 hr_12 => ?_)
          subst hr_12
          refine lv_if_eq (tgt := 60) hx hb d_X8_drawn_54 (by decide) (fun _ => ?_) (fun c_13 => absurd (by decide +kernel) c_13)
          refine lv_iinc (v := nI (j_4 + 1)) (lv' := [(3, .int (nI (j_4 + 1))), (2, .int 0), (0, .ref x), (1, .int (nI k9))]) hx hb d_X8_drawn_60 hl (k := 0) rfl (nI_1 j_4) (by decide) rfl (fun ls hl => ?_)
          refine lv_goto (tgt := 18) hx hb d_X8_drawn_63 (by decide) ?_
          exact ih_6 (j_4 + 1) (by first | rfl | omega) ((sv * 6364136223846793005) + 1442695040888963407)  _ _ _ hP hD hS (lv_sub hl [0, 1, 2, 3] rfl)
      exact key_3 k9 0 (by first | rfl | omega) 0  _ _ _ hP hD hS (lv_sub hl [0, 1, 2, 3] rfl)
    · skip
      refine lv_bipush (v := (-2)) hx hb d_X8_drawn_11 (by decide) ?_
      exact hret _ _ _ _ [] _ _ _ (hP.sub (ws' := []) [] rfl) (hD.sub (ws' := []) [] (by decide) rfl) hS (Nat.le_of_ble_eq_true rfl) (Nat.le_of_ble_eq_true rfl) d_X8_drawn_13 (rfl) ⟨by unfold cu_sdr; rw [if_neg c_1, if_pos (Int32.not_le.mp c_2)], rfl⟩
set_option maxHeartbeats 4000000 in
set_option maxRecDepth 100000 in
theorem c_X6_look (l : Launch) (D : va_G) (cI cZ cQ : ClassId) (h w y a u v : Nat) (o w2 y2 a2 u2 : Nat) (rt lw : Int32) : cu_V l D (cu_TY cI cZ cQ) yX6_look cX6_look 5 2 42 0 0 [.ref h, .ref o] [(h, .inr (4, [.ref w, .ref y, .ref a, .ref u, .ref v, .int 1, .int 0, .int 0, .int 0, .int 0, .int 0])), (w, .inl (cI, 12, .inl (fun _ => 0))), (y, .inl (cI, 12, .inl (fun _ => 0))), (o, .inr (2, [.ref w2, .ref y2, .ref a2, .ref u2, .int 0, .int 0, .int rt, .int lw]))] (fun ww => ww = [(h, .inr (4, [.ref w, .ref y, .ref a, .ref u, .ref v, .int 1, .int 0, .int 0, .int 0, .int 0, .int 0])), (w, .inl (cI, 12, .inl (fun _ => 0))), (y, .inl (cI, 12, .inl (fun _ => 0))), (o, .inr (2, [.ref w2, .ref y2, .ref a2, .ref u2, .int 0, .int 0, .int rt, .int lw]))]) := by
  refine cu_V.intro (by decide) (Nat.le_of_ble_eq_true rfl) ?_
  intro p e s m args below meth c Q ls A S hin hret hP hD hS hA hK hl
  obtain ⟨hx, hb, hml, hown, hg⟩ := S
  have hown : s.vm.findClass RX6 = some m.cls := hown
  have hin : meth.name = "look" := hin
  have hl : lv_has ls 5 [(0, .ref h), (1, .ref o)] := hl
  refine lv_iconst (v := 0) hx hb d_X6_look_0 (by decide) ?_
  refine lv_istore_n (lv' := [(2, .int 0), (0, .ref h), (1, .ref o)]) hx hb d_X6_look_1 rfl hl (by decide) rfl (fun ls hl => ?_)
  have key_1 : ∀ (n_3 j_2 : Nat) (hj_5 : j_2 + n_3 = 12)   (H : Heap) (locs : List Loc) (ls : Array Slot) (hP : va_P D vwCl [(h, .inr (4, [.ref w, .ref y, .ref a, .ref u, .ref v, .int 1, .int 0, .int 0, .int 0, .int 0, .int 0])), (w, .inl (cI, 12, .inl (fun _ => 0))), (y, .inl (cI, 12, .inl (fun _ => 0))), (o, .inr (2, [.ref w2, .ref y2, .ref a2, .ref u2, .int 0, .int 0, .int rt, .int lw]))] H) (hD : va_D A [(h, .inr (4, [.ref w, .ref y, .ref a, .ref u, .ref v, .int 1, .int 0, .int 0, .int 0, .int 0, .int 0])), (w, .inl (cI, 12, .inl (fun _ => 0))), (y, .inl (cI, 12, .inl (fun _ => 0))), (o, .inr (2, [.ref w2, .ref y2, .ref a2, .ref u2, .int 0, .int 0, .int rt, .int lw]))]) (hS : va_S A s.heap H locs) (hl : lv_has ls 5 [(2, .int (nI j_2)), (0, .ref h), (1, .ref o)]), W p l e (cu_rm 2 42 0 0) s m args below meth c H locs 0 0 Q (F0 m 2 ls []) := by
    intro n_3
    induction n_3 with
    | zero =>
      intro j_2 hj_5   H locs ls hP hD hS hl
      obtain rfl : 12 = j_2 := by omega
      have hl : lv_has ls 5 [(2, .int 12), (0, .ref h), (1, .ref o)] := hl
      have hP : va_P D vwCl [(h, .inr (4, [.ref w, .ref y, .ref a, .ref u, .ref v, .int 1, .int 0, .int 0, .int 0, .int 0, .int 0])), (w, .inl (cI, 12, .inl (fun _ => 0))), (y, .inl (cI, 12, .inl (fun _ => 0))), (o, .inr (2, [.ref w2, .ref y2, .ref a2, .ref u2, .int 0, .int 0, .int rt, .int lw]))] H := hP
      have hD : va_D A [(h, .inr (4, [.ref w, .ref y, .ref a, .ref u, .ref v, .int 1, .int 0, .int 0, .int 0, .int 0, .int 0])), (w, .inl (cI, 12, .inl (fun _ => 0))), (y, .inl (cI, 12, .inl (fun _ => 0))), (o, .inr (2, [.ref w2, .ref y2, .ref a2, .ref u2, .int 0, .int 0, .int rt, .int lw]))] := hD
      refine lv_iload_n hx hb d_X6_look_2 rfl (lv_at hl 0 rfl) ?_
      refine lv_bipush (v := 12) hx hb d_X6_look_3 (by decide) ?_
      refine lv_icmp_ge (tgt := 91) hx hb d_X6_look_5 (by decide) (fun _ => ?_) (fun c_6 => absurd (by decide +kernel) c_6)
      exact hret _ _ _ _ [(h, .inr (4, [.ref w, .ref y, .ref a, .ref u, .ref v, .int 1, .int 0, .int 0, .int 0, .int 0, .int 0])), (w, .inl (cI, 12, .inl (fun _ => 0))), (y, .inl (cI, 12, .inl (fun _ => 0))), (o, .inr (2, [.ref w2, .ref y2, .ref a2, .ref u2, .int 0, .int 0, .int rt, .int lw]))] _ _ (hP.sub (ws' := [(h, .inr (4, [.ref w, .ref y, .ref a, .ref u, .ref v, .int 1, .int 0, .int 0, .int 0, .int 0, .int 0])), (w, .inl (cI, 12, .inl (fun _ => 0))), (y, .inl (cI, 12, .inl (fun _ => 0))), (o, .inr (2, [.ref w2, .ref y2, .ref a2, .ref u2, .int 0, .int 0, .int rt, .int lw]))]) [0, 1, 2, 3] rfl) (hD.sub (ws' := [(h, .inr (4, [.ref w, .ref y, .ref a, .ref u, .ref v, .int 1, .int 0, .int 0, .int 0, .int 0, .int 0])), (w, .inl (cI, 12, .inl (fun _ => 0))), (y, .inl (cI, 12, .inl (fun _ => 0))), (o, .inr (2, [.ref w2, .ref y2, .ref a2, .ref u2, .int 0, .int 0, .int rt, .int lw]))]) [0, 1, 2, 3] (by decide) rfl) hS (Nat.le_of_ble_eq_true rfl) (Nat.le_of_ble_eq_true rfl) d_X6_look_91 rfl
    | succ n_3 ih_4 =>
      intro j_2 hj_5   H locs ls hP hD hS hl
      refine lv_iload_n hx hb d_X6_look_2 rfl (lv_at hl 0 rfl) ?_
      refine lv_bipush (v := 12) hx hb d_X6_look_3 (by decide) ?_
      refine lv_icmp_ge (tgt := 91) hx hb d_X6_look_5 (by decide) (fun c_7 => absurd c_7 (mt (nI_leI (a := 12) (b := j_2) (by omega) (by omega)).mp (by omega))) (fun _ => ?_)
      refine lv_aload_n hx hb d_X6_look_8 rfl (lv_at hl 2 rfl) ?_
      refine lv_iload_n hx hb d_X6_look_9 rfl (lv_at hl 0 rfl) ?_
      refine cu_VR (wc := [(o, .inr (2, [.ref w2, .ref y2, .ref a2, .ref u2, .int 0, .int 0, .int rt, .int lw]))]) (rest := []) [.int (nI j_2)] ⟨hx, hb, hml, hown, hg⟩ (c_X3_counts l D cI cZ cQ o w2 y2 a2 u2 rt lw (nI j_2)) hd_X3_counts k_329 k_473 k_327 k_328 k_45 ⟨Nat.le_of_ble_eq_true rfl, Nat.le_of_ble_eq_true rfl⟩ ⟨Nat.le_of_ble_eq_true rfl, Nat.le_of_ble_eq_true rfl⟩ hP hK [3] rfl 0 rfl rfl rfl hl.1 rfl (Nat.le_of_ble_eq_true rfl) d_X6_look_10 (fun r_8 hr_9 => ?_)
      subst hr_9
      refine lv_if_eq (tgt := 25) hx hb d_X6_look_13 (by decide) (fun _ => ?_) (fun c_10 => absurd (by decide +kernel) c_10)
      refine lv_iconst (v := 0) hx hb d_X6_look_25 (by decide) ?_
      refine lv_istore_n (lv' := [(3, .int 0), (2, .int (nI j_2)), (0, .ref h), (1, .ref o)]) hx hb d_X6_look_26 rfl hl (by decide) rfl (fun ls hl => ?_)
      refine lv_aload_n hx hb d_X6_look_27 rfl (lv_at hl 3 rfl) ?_
      refine lv_iload_n hx hb d_X6_look_28 rfl (lv_at hl 1 rfl) ?_
      refine cu_VR (wc := [(o, .inr (2, [.ref w2, .ref y2, .ref a2, .ref u2, .int 0, .int 0, .int rt, .int lw]))]) (rest := []) [.int (nI j_2)] ⟨hx, hb, hml, hown, hg⟩ (c_X3_counts l D cI cZ cQ o w2 y2 a2 u2 rt lw (nI j_2)) hd_X3_counts k_329 k_473 k_327 k_328 k_45 ⟨Nat.le_of_ble_eq_true rfl, Nat.le_of_ble_eq_true rfl⟩ ⟨Nat.le_of_ble_eq_true rfl, Nat.le_of_ble_eq_true rfl⟩ hP hK [3] rfl 0 rfl rfl rfl hl.1 rfl (Nat.le_of_ble_eq_true rfl) d_X6_look_29 (fun r_11 hr_12 => ?_)
      subst hr_12
      refine lv_if_eq (tgt := 43) hx hb d_X6_look_32 (by decide) (fun _ => ?_) (fun c_13 => absurd (by decide +kernel) c_13)
      refine lv_iconst (v := 0) hx hb d_X6_look_43 (by decide) ?_
      refine lv_istore (lv' := [(4, .int 0), (3, .int 0), (2, .int (nI j_2)), (0, .ref h), (1, .ref o)]) hx hb d_X6_look_44 hl (by decide) rfl (fun ls hl => ?_)
      refine lv_iload_n hx hb d_X6_look_46 rfl (lv_at hl 1 rfl) ?_
      refine lv_aload_n hx hb d_X6_look_47 rfl (lv_at hl 3 rfl) ?_
      refine va_get (D := D) (ci := 4) (v := .ref w) (C := RX6) (T := TX6) (N := 11) hx hb hg cu_iX6 hown hK.1 hP 0 rfl rfl 0 (by decide) (hg _ k_431) (fun _ h9 => h9) rfl d_X6_look_48 ?_
      refine lv_iload_n hx hb d_X6_look_51 rfl (lv_at hl 2 rfl) ?_
      refine va_iald hx hb hK.1 hP 1 0 rfl rfl (vp_in_nI (by omega) (by decide)) d_X6_look_52 ?_
      refine cu_topi (y := 0) rfl ?_
      refine lv_icmp_ne (tgt := 67) hx hb d_X6_look_53 (by decide) (fun c_14 => absurd (by decide +kernel) c_14) (fun _ => ?_)
      refine lv_iload hx hb d_X6_look_56 (lv_at hl 0 rfl) ?_
      refine lv_aload_n hx hb d_X6_look_58 rfl (lv_at hl 3 rfl) ?_
      refine va_get (D := D) (ci := 4) (v := .ref y) (C := RX6) (T := TX6) (N := 11) hx hb hg cu_iX6 hown hK.1 hP 0 rfl rfl 1 (by decide) (hg _ k_432) (fun _ h9 => h9) rfl d_X6_look_59 ?_
      refine lv_iload_n hx hb d_X6_look_62 rfl (lv_at hl 2 rfl) ?_
      refine va_iald hx hb hK.1 hP 2 0 rfl rfl (vp_in_nI (by omega) (by decide)) d_X6_look_63 ?_
      refine cu_topi (y := 0) rfl ?_
      refine lv_icmp_eq (tgt := 85) hx hb d_X6_look_64 (by decide) (fun _ => ?_) (fun c_15 => absurd (by decide +kernel) c_15)
      refine lv_iinc (v := nI (j_2 + 1)) (lv' := [(2, .int (nI (j_2 + 1))), (4, .int 0), (3, .int 0), (0, .ref h), (1, .ref o)]) hx hb d_X6_look_85 hl (k := 2) rfl (nI_1 j_2) (by decide) rfl (fun ls hl => ?_)
      refine lv_goto (tgt := 2) hx hb d_X6_look_88 (by decide) ?_
      exact ih_4 (j_2 + 1) (by first | rfl | omega)   _ _ _ hP hD hS (lv_sub hl [0, 3, 4] rfl)
  exact key_1 12 0 (by first | rfl | omega)   _ _ _ hP hD hS (lv_sub hl [0, 1, 2] rfl)
set_option maxHeartbeats 4000000 in
set_option maxRecDepth 100000 in
theorem c_X8_surveyNow (l : Launch) (D : va_G) (cI cZ cQ : ClassId) (x tx nw sp ac cr sg sl fl : Nat) (w y a u : Nat) : cu_Q l D (cu_TY cI cZ cQ) yX8_surveyNow cX8_surveyNow 1 "CommonUnits$Survey" 3 66 6 14034 [.ref x] [(x, .inr (6, [.ref tx, .ref nw, .ref sp, .ref ac, .ref cr, .ref sg, .ref sl, .ref fl, .null, .long 0])), (nw, .inr (2, [.ref w, .ref y, .ref a, .ref u, .int 0, .int 0, .int 1, .int 0]))] (fun uu => ∃ q0 : Nat, ∃ v1 : Nat, ∃ v2 : Nat, ∃ v3 : Nat, ∃ v4 : Nat, ∃ v5 : Nat, uu = (q0, [(x, .inr (6, [.ref tx, .ref nw, .ref sp, .ref ac, .ref cr, .ref sg, .ref sl, .ref fl, .ref q0, .long 0])), (nw, .inr (2, [.ref w, .ref y, .ref a, .ref u, .int 0, .int 0, .int 1, .int 0])), (q0, .inr (4, [.ref v1, .ref v2, .ref v3, .ref v4, .ref v5, .int 1, .int 0, .int 0, .int 0, .int 0, .int 0])), (v1, .inl (cI, 12, .inl (fun _ => 0))), (v2, .inl (cI, 12, .inl (fun _ => 0))), (v3, .inl (cI, 12000, .inl (fun _ => 0))), (v4, .inl (cI, 1000, .inl (fun _ => 0))), (v5, .inl (cI, 999, .inl (fun _ => 0)))])) := by
  refine cu_Q.intro (by decide) (Nat.le_of_ble_eq_true rfl) ?_
  intro p e s m args below meth c Q ls A S hret hP hD hS hA hK hl
  obtain ⟨hx, hb, hml, hown, hg⟩ := S
  have hown : s.vm.findClass RX8 = some m.cls := hown
  have hl : lv_has ls 1 [(0, .ref x)] := hl
  refine lv_aload_n hx hb d_X8_surveyNow_0 rfl (lv_at hl 0 rfl) ?_
  refine va_get (D := D) (ci := 6) (v := .null) (C := RX8) (T := TX8) (N := 10) hx hb hg cu_iX8 hown hK.1 hP 0 rfl rfl 8 (by decide) (hg _ k_187) (fun _ h9 => h9) rfl d_X8_surveyNow_1 ?_
  refine lv_ifnonnullN hx hb d_X8_surveyNow_4 ?_
  refine lv_aload_n hx hb d_X8_surveyNow_7 rfl (lv_at hl 0 rfl) ?_
  refine va_new (ci := 4) (fs := [.null, .null, .null, .null, .null, .int 0, .int 0, .int 0, .int 0, .int 0, .int 0]) (C := RX6) (T := TX6) (N := 11) hx hb hg cu_iX6 tyX6 tyX6_ok hown (hg _ k_425) (hg _ k_426) (hg _ k_53) hK.1 hP hD hS hA rfl (fun j hj => by rcases (show j = 0 ∨ j = 1 ∨ j = 2 ∨ j = 3 ∨ j = 4 ∨ j = 5 ∨ j = 6 ∨ j = 7 ∨ j = 8 ∨ j = 9 ∨ j = 10 by omega) with rfl | rfl | rfl | rfl | rfl | rfl | rfl | rfl | rfl | rfl | rfl <;> rfl) (Nat.le_of_ble_eq_true rfl) (Nat.le_of_ble_eq_true rfl) d_X8_surveyNow_8 (fun q_1 H hP hD hS => ?_)
  have hP : va_P D vwCl [(x, .inr (6, [.ref tx, .ref nw, .ref sp, .ref ac, .ref cr, .ref sg, .ref sl, .ref fl, .null, .long 0])), (nw, .inr (2, [.ref w, .ref y, .ref a, .ref u, .int 0, .int 0, .int 1, .int 0])), (q_1, .inr (4, [.null, .null, .null, .null, .null, .int 0, .int 0, .int 0, .int 0, .int 0, .int 0]))] H := hP
  have hD : va_D A [(x, .inr (6, [.ref tx, .ref nw, .ref sp, .ref ac, .ref cr, .ref sg, .ref sl, .ref fl, .null, .long 0])), (nw, .inr (2, [.ref w, .ref y, .ref a, .ref u, .int 0, .int 0, .int 1, .int 0])), (q_1, .inr (4, [.null, .null, .null, .null, .null, .int 0, .int 0, .int 0, .int 0, .int 0, .int 0]))] := hD
  refine W.widen (k := 1) (n := 11) (Nat.le_of_ble_eq_true rfl) (Nat.le_of_ble_eq_true rfl) ?_
  refine lv_dup hx hb d_X8_surveyNow_11 rfl ?_
  refine cu_NV (wc := [(q_1, .inr (4, [.null, .null, .null, .null, .null, .int 0, .int 0, .int 0, .int 0, .int 0, .int 0]))]) (wr := [(x, .inr (6, [.ref tx, .ref nw, .ref sp, .ref ac, .ref cr, .ref sg, .ref sl, .ref fl, .null, .long 0])), (nw, .inr (2, [.ref w, .ref y, .ref a, .ref u, .int 0, .int 0, .int 1, .int 0]))]) (rest := [.ref q_1, .ref x]) [] ⟨hx, hb, hml, hown, hg⟩ (c_X6_init l D cI cZ cQ q_1) hd_X6_init k_429 hK.2.2.2.2.2.2.2 k_428 k_53 rfl ⟨Nat.le_of_ble_eq_true rfl, Nat.le_of_ble_eq_true rfl⟩ ⟨Nat.le_of_ble_eq_true rfl, Nat.le_of_ble_eq_true rfl⟩ hP hD hS hA hK [2] [0, 1] rfl rfl (by decide) (by decide) (by decide) rfl hl.1 rfl (Nat.le_of_ble_eq_true rfl) d_X8_surveyNow_12 (fun w_4 H locs hw_3 hP hD hS => ?_)
  obtain ⟨w_5, y_6, a_7, u_8, v_9, rfl⟩ := hw_3
  have hP : va_P D vwCl [(x, .inr (6, [.ref tx, .ref nw, .ref sp, .ref ac, .ref cr, .ref sg, .ref sl, .ref fl, .null, .long 0])), (nw, .inr (2, [.ref w, .ref y, .ref a, .ref u, .int 0, .int 0, .int 1, .int 0])), (q_1, .inr (4, [.ref w_5, .ref y_6, .ref a_7, .ref u_8, .ref v_9, .int 1, .int 0, .int 0, .int 0, .int 0, .int 0])), (w_5, .inl (cI, 12, .inl (fun _ => 0))), (y_6, .inl (cI, 12, .inl (fun _ => 0))), (a_7, .inl (cI, 12000, .inl (fun _ => 0))), (u_8, .inl (cI, 1000, .inl (fun _ => 0))), (v_9, .inl (cI, 999, .inl (fun _ => 0)))] H := hP
  have hD : va_D A [(x, .inr (6, [.ref tx, .ref nw, .ref sp, .ref ac, .ref cr, .ref sg, .ref sl, .ref fl, .null, .long 0])), (nw, .inr (2, [.ref w, .ref y, .ref a, .ref u, .int 0, .int 0, .int 1, .int 0])), (q_1, .inr (4, [.ref w_5, .ref y_6, .ref a_7, .ref u_8, .ref v_9, .int 1, .int 0, .int 0, .int 0, .int 0, .int 0])), (w_5, .inl (cI, 12, .inl (fun _ => 0))), (y_6, .inl (cI, 12, .inl (fun _ => 0))), (a_7, .inl (cI, 12000, .inl (fun _ => 0))), (u_8, .inl (cI, 1000, .inl (fun _ => 0))), (v_9, .inl (cI, 999, .inl (fun _ => 0)))] := hD
  refine W.widen (k := 6) (n := 14034) (Nat.le_of_ble_eq_true rfl) (Nat.le_of_ble_eq_true rfl) ?_
  refine va_put (D := D) (ci := 6) (v := .ref q_1) (ty := .object "CommonUnits$Survey") (C := RX8) (T := TX8) (N := 10) hx hb hg cu_iX8 tyX8 tyX8_ok nmX8 hown hK.1 hP hD hS 0 rfl rfl 8 (by decide) (hg _ k_187) (fun _ h9 => h9) rfl (by decide +kernel) rfl rfl (Nat.le_of_ble_eq_true rfl) d_X8_surveyNow_15 (fun H locs hP hD hS => ?_)
  have hP : va_P D vwCl [(x, .inr (6, [.ref tx, .ref nw, .ref sp, .ref ac, .ref cr, .ref sg, .ref sl, .ref fl, .ref q_1, .long 0])), (nw, .inr (2, [.ref w, .ref y, .ref a, .ref u, .int 0, .int 0, .int 1, .int 0])), (q_1, .inr (4, [.ref w_5, .ref y_6, .ref a_7, .ref u_8, .ref v_9, .int 1, .int 0, .int 0, .int 0, .int 0, .int 0])), (w_5, .inl (cI, 12, .inl (fun _ => 0))), (y_6, .inl (cI, 12, .inl (fun _ => 0))), (a_7, .inl (cI, 12000, .inl (fun _ => 0))), (u_8, .inl (cI, 1000, .inl (fun _ => 0))), (v_9, .inl (cI, 999, .inl (fun _ => 0)))] H := hP
  have hD : va_D A [(x, .inr (6, [.ref tx, .ref nw, .ref sp, .ref ac, .ref cr, .ref sg, .ref sl, .ref fl, .ref q_1, .long 0])), (nw, .inr (2, [.ref w, .ref y, .ref a, .ref u, .int 0, .int 0, .int 1, .int 0])), (q_1, .inr (4, [.ref w_5, .ref y_6, .ref a_7, .ref u_8, .ref v_9, .int 1, .int 0, .int 0, .int 0, .int 0, .int 0])), (w_5, .inl (cI, 12, .inl (fun _ => 0))), (y_6, .inl (cI, 12, .inl (fun _ => 0))), (a_7, .inl (cI, 12000, .inl (fun _ => 0))), (u_8, .inl (cI, 1000, .inl (fun _ => 0))), (v_9, .inl (cI, 999, .inl (fun _ => 0)))] := hD
  refine lv_aload_n hx hb d_X8_surveyNow_18 rfl (lv_at hl 0 rfl) ?_
  refine va_get (D := D) (ci := 6) (v := .ref q_1) (C := RX8) (T := TX8) (N := 10) hx hb hg cu_iX8 hown hK.1 hP 0 rfl rfl 8 (by decide) (hg _ k_187) (fun _ h9 => h9) rfl d_X8_surveyNow_19 ?_
  refine lv_aload_n hx hb d_X8_surveyNow_22 rfl (lv_at hl 0 rfl) ?_
  refine va_get (D := D) (ci := 6) (v := .ref nw) (C := RX8) (T := TX8) (N := 10) hx hb hg cu_iX8 hown hK.1 hP 0 rfl rfl 1 (by decide) (hg _ k_180) (fun _ h9 => h9) rfl d_X8_surveyNow_23 ?_
  refine cu_VV (wc := [(q_1, .inr (4, [.ref w_5, .ref y_6, .ref a_7, .ref u_8, .ref v_9, .int 1, .int 0, .int 0, .int 0, .int 0, .int 0])), (w_5, .inl (cI, 12, .inl (fun _ => 0))), (y_6, .inl (cI, 12, .inl (fun _ => 0))), (nw, .inr (2, [.ref w, .ref y, .ref a, .ref u, .int 0, .int 0, .int 1, .int 0]))]) (wr := [(x, .inr (6, [.ref tx, .ref nw, .ref sp, .ref ac, .ref cr, .ref sg, .ref sl, .ref fl, .ref q_1, .long 0])), (a_7, .inl (cI, 12000, .inl (fun _ => 0))), (u_8, .inl (cI, 1000, .inl (fun _ => 0))), (v_9, .inl (cI, 999, .inl (fun _ => 0)))]) (rest := []) [.ref nw] ⟨hx, hb, hml, hown, hg⟩ (c_X6_look l D cI cZ cQ q_1 w_5 y_6 a_7 u_8 v_9 nw w y a u 1 0) hd_X6_look k_472 k_469 k_470 k_471 k_53 ⟨Nat.le_of_ble_eq_true rfl, Nat.le_of_ble_eq_true rfl⟩ ⟨Nat.le_of_ble_eq_true rfl, Nat.le_of_ble_eq_true rfl⟩ hP hD hS hA hK [2, 3, 4, 1] [0, 5, 6, 7] rfl rfl (by decide) (by decide) (by decide) 0 rfl rfl rfl hl.1 rfl (Nat.le_of_ble_eq_true rfl) d_X8_surveyNow_26 (fun w_12 H locs hw_11 hP hD hS => ?_)
  subst hw_11
  have hP : va_P D vwCl [(x, .inr (6, [.ref tx, .ref nw, .ref sp, .ref ac, .ref cr, .ref sg, .ref sl, .ref fl, .ref q_1, .long 0])), (a_7, .inl (cI, 12000, .inl (fun _ => 0))), (u_8, .inl (cI, 1000, .inl (fun _ => 0))), (v_9, .inl (cI, 999, .inl (fun _ => 0))), (q_1, .inr (4, [.ref w_5, .ref y_6, .ref a_7, .ref u_8, .ref v_9, .int 1, .int 0, .int 0, .int 0, .int 0, .int 0])), (w_5, .inl (cI, 12, .inl (fun _ => 0))), (y_6, .inl (cI, 12, .inl (fun _ => 0))), (nw, .inr (2, [.ref w, .ref y, .ref a, .ref u, .int 0, .int 0, .int 1, .int 0]))] H := hP
  have hD : va_D A [(x, .inr (6, [.ref tx, .ref nw, .ref sp, .ref ac, .ref cr, .ref sg, .ref sl, .ref fl, .ref q_1, .long 0])), (a_7, .inl (cI, 12000, .inl (fun _ => 0))), (u_8, .inl (cI, 1000, .inl (fun _ => 0))), (v_9, .inl (cI, 999, .inl (fun _ => 0))), (q_1, .inr (4, [.ref w_5, .ref y_6, .ref a_7, .ref u_8, .ref v_9, .int 1, .int 0, .int 0, .int 0, .int 0, .int 0])), (w_5, .inl (cI, 12, .inl (fun _ => 0))), (y_6, .inl (cI, 12, .inl (fun _ => 0))), (nw, .inr (2, [.ref w, .ref y, .ref a, .ref u, .int 0, .int 0, .int 1, .int 0]))] := hD
  refine lv_aload_n hx hb d_X8_surveyNow_29 rfl (lv_at hl 0 rfl) ?_
  refine va_get (D := D) (ci := 6) (v := .ref q_1) (C := RX8) (T := TX8) (N := 10) hx hb hg cu_iX8 hown hK.1 hP 0 rfl rfl 8 (by decide) (hg _ k_187) (fun _ h9 => h9) rfl d_X8_surveyNow_30 ?_
  exact hret _ _ _ _ [(x, .inr (6, [.ref tx, .ref nw, .ref sp, .ref ac, .ref cr, .ref sg, .ref sl, .ref fl, .ref q_1, .long 0])), (nw, .inr (2, [.ref w, .ref y, .ref a, .ref u, .int 0, .int 0, .int 1, .int 0])), (q_1, .inr (4, [.ref w_5, .ref y_6, .ref a_7, .ref u_8, .ref v_9, .int 1, .int 0, .int 0, .int 0, .int 0, .int 0])), (w_5, .inl (cI, 12, .inl (fun _ => 0))), (y_6, .inl (cI, 12, .inl (fun _ => 0))), (a_7, .inl (cI, 12000, .inl (fun _ => 0))), (u_8, .inl (cI, 1000, .inl (fun _ => 0))), (v_9, .inl (cI, 999, .inl (fun _ => 0)))] _ _ _ (hP.sub (ws' := [(x, .inr (6, [.ref tx, .ref nw, .ref sp, .ref ac, .ref cr, .ref sg, .ref sl, .ref fl, .ref q_1, .long 0])), (nw, .inr (2, [.ref w, .ref y, .ref a, .ref u, .int 0, .int 0, .int 1, .int 0])), (q_1, .inr (4, [.ref w_5, .ref y_6, .ref a_7, .ref u_8, .ref v_9, .int 1, .int 0, .int 0, .int 0, .int 0, .int 0])), (w_5, .inl (cI, 12, .inl (fun _ => 0))), (y_6, .inl (cI, 12, .inl (fun _ => 0))), (a_7, .inl (cI, 12000, .inl (fun _ => 0))), (u_8, .inl (cI, 1000, .inl (fun _ => 0))), (v_9, .inl (cI, 999, .inl (fun _ => 0)))]) [0, 7, 4, 5, 6, 1, 2, 3] rfl) (hD.sub (ws' := [(x, .inr (6, [.ref tx, .ref nw, .ref sp, .ref ac, .ref cr, .ref sg, .ref sl, .ref fl, .ref q_1, .long 0])), (nw, .inr (2, [.ref w, .ref y, .ref a, .ref u, .int 0, .int 0, .int 1, .int 0])), (q_1, .inr (4, [.ref w_5, .ref y_6, .ref a_7, .ref u_8, .ref v_9, .int 1, .int 0, .int 0, .int 0, .int 0, .int 0])), (w_5, .inl (cI, 12, .inl (fun _ => 0))), (y_6, .inl (cI, 12, .inl (fun _ => 0))), (a_7, .inl (cI, 12000, .inl (fun _ => 0))), (u_8, .inl (cI, 1000, .inl (fun _ => 0))), (v_9, .inl (cI, 999, .inl (fun _ => 0)))]) [0, 7, 4, 5, 6, 1, 2, 3] (by decide) rfl) hS (Nat.le_of_ble_eq_true rfl) (Nat.le_of_ble_eq_true rfl) d_X8_surveyNow_33 ⟨q_1, w_5, y_6, a_7, u_8, v_9, rfl⟩
def cu_siu (c1 : Int32) : Int32 := if c1 < 1 then 0 else if 999 < c1 then 0 else 1
set_option maxHeartbeats 4000000 in
set_option maxRecDepth 100000 in
theorem c_X2_isUnit (l : Launch) (D : va_G) (cI cZ cQ : ClassId) (c1 : Int32) : cu_R l D (cu_TY cI cZ cQ) yX2_isUnit cX2_isUnit 1 .boolean 0 0 [.int c1] [] (fun r => r = cu_siu c1) := by
  refine cu_R.intro (by decide) (Nat.le_of_ble_eq_true rfl) ?_
  intro p e s m args below meth c Q ls S hret hP hK hl
  obtain ⟨hx, hb, hml, hown, hg⟩ := S
  have hown : s.vm.findClass RX2 = some m.cls := hown
  have hl : lv_has ls 1 [(0, .int c1)] := hl
  refine lv_iload_n hx hb d_X2_isUnit_0 rfl (lv_at hl 0 rfl) ?_
  refine lv_iconst (v := 1) hx hb d_X2_isUnit_1 (by decide) ?_
  refine lv_icmp_lt (tgt := 16) hx hb d_X2_isUnit_2 (by decide) (fun c_1 => ?_) (fun c_1 => ?_)
  · skip
    refine lv_iconst (v := 0) hx hb d_X2_isUnit_16 (by decide) ?_
    exact hret _ _ _ d_X2_isUnit_17 (by decide +kernel) (by unfold cu_siu; rw [if_pos c_1])
  · skip
    refine lv_iload_n hx hb d_X2_isUnit_5 rfl (lv_at hl 0 rfl) ?_
    refine lv_sipush (v := 999) hx hb d_X2_isUnit_6 (by decide) ?_
    refine lv_icmp_gt (tgt := 16) hx hb d_X2_isUnit_9 (by decide) (fun c_2 => ?_) (fun c_2 => ?_)
    · skip
      refine lv_iconst (v := 0) hx hb d_X2_isUnit_16 (by decide) ?_
      exact hret _ _ _ d_X2_isUnit_17 (by decide +kernel) (by unfold cu_siu; rw [if_neg c_1, if_pos c_2])
    · skip
      refine lv_iconst (v := 1) hx hb d_X2_isUnit_12 (by decide) ?_
      refine lv_goto (tgt := 17) hx hb d_X2_isUnit_13 (by decide) ?_
      exact hret _ _ _ d_X2_isUnit_17 (by decide +kernel) (by unfold cu_siu; rw [if_neg c_1, if_neg c_2])
set_option maxHeartbeats 4000000 in
set_option maxRecDepth 100000 in
theorem c_X2_isUnitK (l : Launch) (D : va_G) (cI cZ cQ : ClassId) (k : Nat) (hy_0 : 1 ≤ k ∧ k ≤ 999) : cu_R l D (cu_TY cI cZ cQ) yX2_isUnit cX2_isUnit 1 .boolean 0 0 [.int (nI k)] [] (fun r => r = 1) := by
  refine cu_R.intro (by decide) (Nat.le_of_ble_eq_true rfl) ?_
  intro p e s m args below meth c Q ls S hret hP hK hl
  obtain ⟨hx, hb, hml, hown, hg⟩ := S
  have hown : s.vm.findClass RX2 = some m.cls := hown
  have hl : lv_has ls 1 [(0, .int (nI k))] := hl
  refine lv_iload_n hx hb d_X2_isUnit_0 rfl (lv_at hl 0 rfl) ?_
  refine lv_iconst (v := 1) hx hb d_X2_isUnit_1 (by decide) ?_
  refine lv_icmp_lt (tgt := 16) hx hb d_X2_isUnit_2 (by decide) (fun c_1 => absurd c_1 (mt (nI_ltI (a := k) (b := 1) (by omega) (by omega)).mp (by omega))) (fun _ => ?_)
  refine lv_iload_n hx hb d_X2_isUnit_5 rfl (lv_at hl 0 rfl) ?_
  refine lv_sipush (v := 999) hx hb d_X2_isUnit_6 (by decide) ?_
  refine lv_icmp_gt (tgt := 16) hx hb d_X2_isUnit_9 (by decide) (fun c_2 => absurd c_2 (mt (nI_ltI (a := 999) (b := k) (by omega) (by omega)).mp (by omega))) (fun _ => ?_)
  refine lv_iconst (v := 1) hx hb d_X2_isUnit_12 (by decide) ?_
  refine lv_goto (tgt := 17) hx hb d_X2_isUnit_13 (by decide) ?_
  exact hret _ _ _ d_X2_isUnit_17 (by decide +kernel) (rfl)
set_option maxHeartbeats 4000000 in
set_option maxRecDepth 100000 in
theorem c_X6_keyOf (l : Launch) (D : va_G) (cI cZ cQ : ClassId) (h w y a u v : Nat) (k : Nat) (hy_0 : 1 ≤ k ∧ k ≤ 999) : cu_R l D (cu_TY cI cZ cQ) yX6_keyOf cX6_keyOf 2 .int 1 20 [.ref h, .int (nI k)] [(h, .inr (4, [.ref w, .ref y, .ref a, .ref u, .ref v, .int 1, .int 0, .int 0, .int 0, .int 0, .int 0])), (u, .inl (cI, 1000, .inl (fun _ => 0)))] (fun r => r = nI (999 - k)) := by
  refine cu_R.intro (by decide) (Nat.le_of_ble_eq_true rfl) ?_
  intro p e s m args below meth c Q ls S hret hP hK hl
  obtain ⟨hx, hb, hml, hown, hg⟩ := S
  have hown : s.vm.findClass RX6 = some m.cls := hown
  have hl : lv_has ls 2 [(0, .ref h), (1, .int (nI k))] := hl
  refine lv_iload_n hx hb d_X6_keyOf_0 rfl (lv_at hl 1 rfl) ?_
  refine cu_SR (wc := []) (rest := []) [.int (nI k)] ⟨hx, hb, hml, hown, hg⟩ (c_X2_isUnitK l D cI cZ cQ k (⟨by omega, by omega⟩)) hd_X2_isUnit k_398 k_490 k_397 k_50 ⟨Nat.le_of_ble_eq_true rfl, Nat.le_of_ble_eq_true rfl⟩ ⟨Nat.le_of_ble_eq_true rfl, Nat.le_of_ble_eq_true rfl⟩ hP hK [] rfl rfl hl.1 rfl (Nat.le_of_ble_eq_true rfl) d_X6_keyOf_1 (fun r_1 hr_2 => ?_)
  subst hr_2
  refine lv_if_eq (tgt := 26) hx hb d_X6_keyOf_4 (by decide) (fun c_3 => absurd c_3 (by decide +kernel)) (fun _ => ?_)
  refine lv_aload_n hx hb d_X6_keyOf_7 rfl (lv_at hl 0 rfl) ?_
  refine va_get (D := D) (ci := 4) (v := .ref u) (C := RX6) (T := TX6) (N := 11) hx hb hg cu_iX6 hown hK.1 hP 0 rfl rfl 3 (by decide) (hg _ k_434) (fun _ h9 => h9) rfl d_X6_keyOf_8 ?_
  refine lv_iload_n hx hb d_X6_keyOf_11 rfl (lv_at hl 1 rfl) ?_
  refine va_iald hx hb hK.1 hP 1 0 rfl rfl (vp_in_nI (by omega) (by decide)) d_X6_keyOf_12 ?_
  refine cu_topi (y := 0) rfl ?_
  refine lv_sipush (v := 1000) hx hb d_X6_keyOf_13 (by decide) ?_
  refine lv_imul hx hb d_X6_keyOf_16 ?_
  refine cu_topi (y := 0) (by decide +kernel) ?_
  refine lv_sipush (v := 999) hx hb d_X6_keyOf_17 (by decide) ?_
  refine lv_iadd hx hb d_X6_keyOf_20 ?_
  refine cu_topi (y := 999) (by decide +kernel) ?_
  refine lv_iload_n hx hb d_X6_keyOf_21 rfl (lv_at hl 1 rfl) ?_
  refine lv_isub hx hb d_X6_keyOf_22 ?_
  refine cu_topi (y := nI (999 - k)) (cu_nsub (a := 999) (by omega)) ?_
  refine lv_goto (tgt := 27) hx hb d_X6_keyOf_23 (by decide) ?_
  exact hret _ _ _ d_X6_keyOf_27 (rfl) (rfl)
set_option maxHeartbeats 4000000 in
set_option maxRecDepth 100000 in
theorem c_X6_rankOf (l : Launch) (D : va_G) (cI cZ cQ : ClassId) (h w y a u v : Nat) (k : Nat) (hy_0 : 1 ≤ k ∧ k ≤ 999) : cu_R l D (cu_TY cI cZ cQ) yX6_rankOf cX6_rankOf 5 .int 2 41 [.ref h, .int (nI k)] [(h, .inr (4, [.ref w, .ref y, .ref a, .ref u, .ref v, .int 1, .int 0, .int 0, .int 0, .int 0, .int 0])), (u, .inl (cI, 1000, .inl (fun _ => 0)))] (fun r => r = nI (999 - k)) := by
  refine cu_R.intro (by decide) (Nat.le_of_ble_eq_true rfl) ?_
  intro p e s m args below meth c Q ls S hret hP hK hl
  obtain ⟨hx, hb, hml, hown, hg⟩ := S
  have hown : s.vm.findClass RX6 = some m.cls := hown
  have hl : lv_has ls 5 [(0, .ref h), (1, .int (nI k))] := hl
  refine lv_iconst (v := 0) hx hb d_X6_rankOf_0 (by decide) ?_
  refine lv_istore_n (lv' := [(2, .int 0), (0, .ref h), (1, .int (nI k))]) hx hb d_X6_rankOf_1 rfl hl (by decide) rfl (fun ls hl => ?_)
  refine lv_aload_n hx hb d_X6_rankOf_2 rfl (lv_at hl 1 rfl) ?_
  refine lv_iload_n hx hb d_X6_rankOf_3 rfl (lv_at hl 2 rfl) ?_
  refine cu_VR (wc := [(h, .inr (4, [.ref w, .ref y, .ref a, .ref u, .ref v, .int 1, .int 0, .int 0, .int 0, .int 0, .int 0])), (u, .inl (cI, 1000, .inl (fun _ => 0)))]) (rest := []) [.int (nI k)] ⟨hx, hb, hml, hown, hg⟩ (c_X6_keyOf l D cI cZ cQ h w y a u v k (⟨by omega, by omega⟩)) hd_X6_keyOf k_489 k_486 k_488 k_9 k_53 ⟨Nat.le_of_ble_eq_true rfl, Nat.le_of_ble_eq_true rfl⟩ ⟨Nat.le_of_ble_eq_true rfl, Nat.le_of_ble_eq_true rfl⟩ hP hK [0, 1] rfl 0 rfl rfl rfl hl.1 rfl (Nat.le_of_ble_eq_true rfl) d_X6_rankOf_4 (fun r_1 hr_2 => ?_)
  subst hr_2
  refine lv_istore_n (lv' := [(3, .int (nI (999 - k))), (2, .int 0), (0, .ref h), (1, .int (nI k))]) hx hb d_X6_rankOf_7 rfl hl (by decide) rfl (fun ls hl => ?_)
  refine lv_iconst (v := 1) hx hb d_X6_rankOf_8 (by decide) ?_
  refine lv_istore (lv' := [(4, .int 1), (3, .int (nI (999 - k))), (2, .int 0), (0, .ref h), (1, .int (nI k))]) hx hb d_X6_rankOf_9 hl (by decide) rfl (fun ls hl => ?_)
  have key_3 : ∀ (n_5 j_4 : Nat) (hj_7 : j_4 + n_5 = 1000)  (hi_8 : 1 ≤ j_4) (ls : Array Slot) (hl : lv_has ls 5 [(4, .int (nI j_4)), (3, .int (nI (999 - k))), (2, .int (nI (j_4 - 1 - k))), (0, .ref h), (1, .int (nI k))]), W p l e (cu_rm 2 41 0 0) s m args below meth c s.heap [] 0 0 Q (F0 m 11 ls []) := by
    intro n_5
    induction n_5 with
    | zero =>
      intro j_4 hj_7  hi_8 ls hl
      obtain rfl : 1000 = j_4 := by omega
      have hl : lv_has ls 5 [(4, .int 1000), (3, .int (nI (999 - k))), (2, .int (nI (1000 - 1 - k))), (0, .ref h), (1, .int (nI k))] := hl
      refine lv_iload hx hb d_X6_rankOf_11 (lv_at hl 0 rfl) ?_
      refine lv_sipush (v := 999) hx hb d_X6_rankOf_13 (by decide) ?_
      refine lv_icmp_gt (tgt := 38) hx hb d_X6_rankOf_16 (by decide) (fun _ => ?_) (fun c_9 => absurd (by decide +kernel) c_9)
      refine lv_iload_n hx hb d_X6_rankOf_38 rfl (lv_at hl 2 rfl) ?_
      exact hret _ _ _ d_X6_rankOf_39 (rfl) (congrArg nI (by omega))
    | succ n_5 ih_6 =>
      intro j_4 hj_7  hi_8 ls hl
      refine lv_iload hx hb d_X6_rankOf_11 (lv_at hl 0 rfl) ?_
      refine lv_sipush (v := 999) hx hb d_X6_rankOf_13 (by decide) ?_
      refine lv_icmp_gt (tgt := 38) hx hb d_X6_rankOf_16 (by decide) (fun c_10 => absurd c_10 (mt (nI_ltI (a := 999) (b := j_4) (by omega) (by omega)).mp (by omega))) (fun _ => ?_)
      refine lv_aload_n hx hb d_X6_rankOf_19 rfl (lv_at hl 3 rfl) ?_
      refine lv_iload hx hb d_X6_rankOf_20 (lv_at hl 0 rfl) ?_
      refine cu_VR (wc := [(h, .inr (4, [.ref w, .ref y, .ref a, .ref u, .ref v, .int 1, .int 0, .int 0, .int 0, .int 0, .int 0])), (u, .inl (cI, 1000, .inl (fun _ => 0)))]) (rest := []) [.int (nI j_4)] ⟨hx, hb, hml, hown, hg⟩ (c_X6_keyOf l D cI cZ cQ h w y a u v j_4 (⟨by omega, by omega⟩)) hd_X6_keyOf k_489 k_486 k_488 k_9 k_53 ⟨Nat.le_of_ble_eq_true rfl, Nat.le_of_ble_eq_true rfl⟩ ⟨Nat.le_of_ble_eq_true rfl, Nat.le_of_ble_eq_true rfl⟩ hP hK [0, 1] rfl 0 rfl rfl rfl hl.1 rfl (Nat.le_of_ble_eq_true rfl) d_X6_rankOf_22 (fun r_11 hr_12 => ?_)
      subst hr_12
      refine lv_iload_n hx hb d_X6_rankOf_25 rfl (lv_at hl 1 rfl) ?_
      refine lv_icmp_ge (tgt := 32) hx hb d_X6_rankOf_26 (by decide) (fun c_13 => ?_) (fun c_13 => ?_)
      · skip
        have hn9 := (nI_leI (by omega) (by omega)).mp c_13
        refine lv_iinc (v := nI (j_4 + 1)) (lv' := [(4, .int (nI (j_4 + 1))), (3, .int (nI (999 - k))), (2, .int (nI (j_4 - 1 - k))), (0, .ref h), (1, .int (nI k))]) hx hb d_X6_rankOf_32 hl (k := 0) rfl (nI_1 j_4) (by decide) rfl (fun ls hl => ?_)
        refine lv_goto (tgt := 11) hx hb d_X6_rankOf_35 (by decide) ?_
        have he_14 : (nI (j_4 - 1 - k) : Int32) = nI ((j_4 + 1) - 1 - k) := congrArg nI (by omega)
        rw [he_14] at hl
        exact ih_6 (j_4 + 1) (by first | rfl | omega)  (by omega) _ (lv_sub hl [0, 1, 2, 3, 4] rfl)
      · skip
        have hn9 := mt (nI_leI (by omega) (by omega)).mpr c_13
        refine lv_iinc (v := nI ((j_4 - 1 - k) + 1)) (lv' := [(2, .int (nI ((j_4 - 1 - k) + 1))), (4, .int (nI j_4)), (3, .int (nI (999 - k))), (0, .ref h), (1, .int (nI k))]) hx hb d_X6_rankOf_29 hl (k := 2) rfl (nI_1 (j_4 - 1 - k)) (by decide) rfl (fun ls hl => ?_)
        refine lv_iinc (v := nI (j_4 + 1)) (lv' := [(4, .int (nI (j_4 + 1))), (2, .int (nI ((j_4 - 1 - k) + 1))), (3, .int (nI (999 - k))), (0, .ref h), (1, .int (nI k))]) hx hb d_X6_rankOf_32 hl (k := 1) rfl (nI_1 j_4) (by decide) rfl (fun ls hl => ?_)
        refine lv_goto (tgt := 11) hx hb d_X6_rankOf_35 (by decide) ?_
        have he_15 : (nI ((j_4 - 1 - k) + 1) : Int32) = nI ((j_4 + 1) - 1 - k) := congrArg nI (by omega)
        rw [he_15] at hl
        exact ih_6 (j_4 + 1) (by first | rfl | omega)  (by omega) _ (lv_sub hl [0, 2, 1, 3, 4] rfl)
  exact key_3 999 1 (by first | rfl | omega)  (Nat.le_refl _) _ (by rw [show (1 - 1 - k) = 0 by omega]; exact lv_sub hl [0, 1, 2, 3, 4] rfl)
set_option maxHeartbeats 4000000 in
set_option maxRecDepth 100000 in
theorem c_J6_bitCount (l : Launch) (D : va_G) (cI cZ cQ : ClassId) : cu_R l D (cu_TY cI cZ cQ) yJ6_bitCount_0f7a4 cJ6_bitCount_0f7a4 1 .int 0 0 [.int 0] [] (fun r => r = 0) := by
  refine cu_R.intro (by decide) (Nat.le_of_ble_eq_true rfl) ?_
  intro p e s m args below meth c Q ls S hret hP hK hl
  obtain ⟨hx, hb, hml, hown, hg⟩ := S
  have hown : s.vm.findClass RJ6 = some m.cls := hown
  have hl : lv_has ls 1 [(0, .int 0)] := hl
  refine lv_iload_n hx hb d_J6_bitCount_0f7a4_0 rfl (lv_at hl 0 rfl) ?_
  refine lv_iload_n hx hb d_J6_bitCount_0f7a4_1 rfl (lv_at hl 0 rfl) ?_
  refine lv_iconst (v := 1) hx hb d_J6_bitCount_0f7a4_2 (by decide) ?_
  refine lv_iushr (v := 0) hx hb d_J6_bitCount_0f7a4_3 (by decide +kernel) ?_
  refine lv_ldcw (v := 1431655765) hx hb hown (hg _ k_334) d_J6_bitCount_0f7a4_4 ?_
  refine lv_iand hx hb d_J6_bitCount_0f7a4_7 ?_
  refine cu_topi (y := 0) (by decide +kernel) ?_
  refine lv_isub hx hb d_J6_bitCount_0f7a4_8 ?_
  refine cu_topi (y := 0) (by decide +kernel) ?_
  refine lv_istore_n (lv' := [(0, .int 0)]) hx hb d_J6_bitCount_0f7a4_9 rfl hl (by decide) rfl (fun ls hl => ?_)
  refine lv_iload_n hx hb d_J6_bitCount_0f7a4_10 rfl (lv_at hl 0 rfl) ?_
  refine lv_ldcw (v := 858993459) hx hb hown (hg _ k_335) d_J6_bitCount_0f7a4_11 ?_
  refine lv_iand hx hb d_J6_bitCount_0f7a4_14 ?_
  refine cu_topi (y := 0) (by decide +kernel) ?_
  refine lv_iload_n hx hb d_J6_bitCount_0f7a4_15 rfl (lv_at hl 0 rfl) ?_
  refine lv_iconst (v := 2) hx hb d_J6_bitCount_0f7a4_16 (by decide) ?_
  refine lv_iushr (v := 0) hx hb d_J6_bitCount_0f7a4_17 (by decide +kernel) ?_
  refine lv_ldcw (v := 858993459) hx hb hown (hg _ k_335) d_J6_bitCount_0f7a4_18 ?_
  refine lv_iand hx hb d_J6_bitCount_0f7a4_21 ?_
  refine cu_topi (y := 0) (by decide +kernel) ?_
  refine lv_iadd hx hb d_J6_bitCount_0f7a4_22 ?_
  refine cu_topi (y := 0) (by decide +kernel) ?_
  refine lv_istore_n (lv' := [(0, .int 0)]) hx hb d_J6_bitCount_0f7a4_23 rfl hl (by decide) rfl (fun ls hl => ?_)
  refine lv_iload_n hx hb d_J6_bitCount_0f7a4_24 rfl (lv_at hl 0 rfl) ?_
  refine lv_iload_n hx hb d_J6_bitCount_0f7a4_25 rfl (lv_at hl 0 rfl) ?_
  refine lv_iconst (v := 4) hx hb d_J6_bitCount_0f7a4_26 (by decide) ?_
  refine lv_iushr (v := 0) hx hb d_J6_bitCount_0f7a4_27 (by decide +kernel) ?_
  refine lv_iadd hx hb d_J6_bitCount_0f7a4_28 ?_
  refine cu_topi (y := 0) (by decide +kernel) ?_
  refine lv_ldcw (v := 252645135) hx hb hown (hg _ k_336) d_J6_bitCount_0f7a4_29 ?_
  refine lv_iand hx hb d_J6_bitCount_0f7a4_32 ?_
  refine cu_topi (y := 0) (by decide +kernel) ?_
  refine lv_istore_n (lv' := [(0, .int 0)]) hx hb d_J6_bitCount_0f7a4_33 rfl hl (by decide) rfl (fun ls hl => ?_)
  refine lv_iload_n hx hb d_J6_bitCount_0f7a4_34 rfl (lv_at hl 0 rfl) ?_
  refine lv_iload_n hx hb d_J6_bitCount_0f7a4_35 rfl (lv_at hl 0 rfl) ?_
  refine lv_bipush (v := 8) hx hb d_J6_bitCount_0f7a4_36 (by decide) ?_
  refine lv_iushr (v := 0) hx hb d_J6_bitCount_0f7a4_38 (by decide +kernel) ?_
  refine lv_iadd hx hb d_J6_bitCount_0f7a4_39 ?_
  refine cu_topi (y := 0) (by decide +kernel) ?_
  refine lv_istore_n (lv' := [(0, .int 0)]) hx hb d_J6_bitCount_0f7a4_40 rfl hl (by decide) rfl (fun ls hl => ?_)
  refine lv_iload_n hx hb d_J6_bitCount_0f7a4_41 rfl (lv_at hl 0 rfl) ?_
  refine lv_iload_n hx hb d_J6_bitCount_0f7a4_42 rfl (lv_at hl 0 rfl) ?_
  refine lv_bipush (v := 16) hx hb d_J6_bitCount_0f7a4_43 (by decide) ?_
  refine lv_iushr (v := 0) hx hb d_J6_bitCount_0f7a4_45 (by decide +kernel) ?_
  refine lv_iadd hx hb d_J6_bitCount_0f7a4_46 ?_
  refine cu_topi (y := 0) (by decide +kernel) ?_
  refine lv_istore_n (lv' := [(0, .int 0)]) hx hb d_J6_bitCount_0f7a4_47 rfl hl (by decide) rfl (fun ls hl => ?_)
  refine lv_iload_n hx hb d_J6_bitCount_0f7a4_48 rfl (lv_at hl 0 rfl) ?_
  refine lv_bipush (v := 63) hx hb d_J6_bitCount_0f7a4_49 (by decide) ?_
  refine lv_iand hx hb d_J6_bitCount_0f7a4_51 ?_
  refine cu_topi (y := 0) (by decide +kernel) ?_
  exact hret _ _ _ d_J6_bitCount_0f7a4_52 (rfl) (rfl)
def cu_sun (c1 c2 : Int32) : Int32 := if c1 < 1 then (-2) else if 999 < c1 then (-2) else if c2 = 0 then 0 else if c2 = 1 then 0 else if c2 = 2 then 0 else if c2 = 3 then (999 - c1) else (-2)
set_option maxHeartbeats 4000000 in
set_option maxRecDepth 100000 in
theorem c_X8_unit (l : Launch) (D : va_G) (cI cZ cQ : ClassId) (x tx nw sp ac cr sg sl fl : Nat) (w y a u : Nat) (c1 c2 : Int32) : cu_W l D (cu_TY cI cZ cQ) yX8_unit cX8_unit 3 .int 4 86 6 14034 [.ref x, .int c1, .int c2] [(x, .inr (6, [.ref tx, .ref nw, .ref sp, .ref ac, .ref cr, .ref sg, .ref sl, .ref fl, .null, .long 0])), (nw, .inr (2, [.ref w, .ref y, .ref a, .ref u, .int 0, .int 0, .int 1, .int 0]))] (fun r ww => (r = cu_sun c1 c2) ∧ ww = []) := by
  refine cu_W.intro (by decide) (Nat.le_of_ble_eq_true rfl) ?_
  intro p e s m args below meth c Q ls A S hret hP hD hS hA hK hl
  obtain ⟨hx, hb, hml, hown, hg⟩ := S
  have hown : s.vm.findClass RX8 = some m.cls := hown
  have hl : lv_has ls 3 [(0, .ref x), (1, .int c1), (2, .int c2)] := hl
  refine lv_iload_n hx hb d_X8_unit_0 rfl (lv_at hl 1 rfl) ?_
  refine cu_SR (wc := []) (rest := []) [.int c1] ⟨hx, hb, hml, hown, hg⟩ (c_X2_isUnit l D cI cZ cQ c1) hd_X2_isUnit k_398 k_396 k_397 k_50 ⟨Nat.le_of_ble_eq_true rfl, Nat.le_of_ble_eq_true rfl⟩ ⟨Nat.le_of_ble_eq_true rfl, Nat.le_of_ble_eq_true rfl⟩ hP hK [] rfl rfl hl.1 rfl (Nat.le_of_ble_eq_true rfl) d_X8_unit_1 (fun r_1 hr_2 => ?_)
  subst hr_2
  by_cases hc_3 : c1 < 1
  · skip
    refine cu_topi (y := 0) (by unfold cu_siu; rw [if_pos hc_3]) ?_
    refine lv_if_ne (tgt := 10) hx hb d_X8_unit_4 (by decide) (fun c_4 => absurd (by decide +kernel) c_4) (fun _ => ?_)
    refine lv_bipush (v := (-2)) hx hb d_X8_unit_7 (by decide) ?_
    exact hret _ _ _ _ [] _ _ _ (hP.sub (ws' := []) [] rfl) (hD.sub (ws' := []) [] (by decide) rfl) hS (Nat.le_of_ble_eq_true rfl) (Nat.le_of_ble_eq_true rfl) d_X8_unit_9 (rfl) ⟨by unfold cu_sun; rw [if_pos hc_3], rfl⟩
  · skip
    by_cases hc_5 : 999 < c1
    · skip
      refine cu_topi (y := 0) (by unfold cu_siu; rw [if_neg hc_3, if_pos hc_5]) ?_
      refine lv_if_ne (tgt := 10) hx hb d_X8_unit_4 (by decide) (fun c_6 => absurd (by decide +kernel) c_6) (fun _ => ?_)
      refine lv_bipush (v := (-2)) hx hb d_X8_unit_7 (by decide) ?_
      exact hret _ _ _ _ [] _ _ _ (hP.sub (ws' := []) [] rfl) (hD.sub (ws' := []) [] (by decide) rfl) hS (Nat.le_of_ble_eq_true rfl) (Nat.le_of_ble_eq_true rfl) d_X8_unit_9 (rfl) ⟨by unfold cu_sun; rw [if_neg hc_3, if_pos hc_5], rfl⟩
    · skip
      refine cu_topi (y := 1) (by unfold cu_siu; rw [if_neg hc_3, if_neg hc_5]) ?_
      refine lv_if_ne (tgt := 10) hx hb d_X8_unit_4 (by decide) (fun _ => ?_) (fun c_7 => absurd c_7 (by decide +kernel))
      refine lv_iload_n hx hb d_X8_unit_10 rfl (lv_at hl 2 rfl) ?_
      by_cases hk_8 : c2 = 0
      · skip
        refine cu_topi (y := 0) hk_8 ?_
        refine lv_tableIn (off := 29) (tgt := 40) hx hb d_X8_unit_11 (by decide) (by decide) (by decide +kernel) (by decide) ?_
        refine lv_aload_n hx hb d_X8_unit_40 rfl (lv_at hl 0 rfl) ?_
        refine va_get (D := D) (ci := 6) (v := .ref nw) (C := RX8) (T := TX8) (N := 10) hx hb hg cu_iX8 hown hK.1 hP 0 rfl rfl 1 (by decide) (hg _ k_180) (fun _ h9 => h9) rfl d_X8_unit_41 ?_
        refine lv_iload_n hx hb d_X8_unit_44 rfl (lv_at hl 1 rfl) ?_
        refine cu_VR (wc := [(nw, .inr (2, [.ref w, .ref y, .ref a, .ref u, .int 0, .int 0, .int 1, .int 0]))]) (rest := []) [.int c1] ⟨hx, hb, hml, hown, hg⟩ (c_X3_explainedBy l D cI cZ cQ nw w y a u 1 0 c1) hd_X3_explainedBy k_420 k_417 k_418 k_419 k_45 ⟨Nat.le_of_ble_eq_true rfl, Nat.le_of_ble_eq_true rfl⟩ ⟨Nat.le_of_ble_eq_true rfl, Nat.le_of_ble_eq_true rfl⟩ hP hK [1] rfl 0 rfl rfl rfl hl.1 rfl (Nat.le_of_ble_eq_true rfl) d_X8_unit_45 (fun r_9 hr_10 => ?_)
        subst hr_10
        refine cu_SR (wc := []) (rest := []) [.int 0] ⟨hx, hb, hml, hown, hg⟩ (c_J6_bitCount l D cI cZ cQ ) hd_J6_bitCount_0f7a4 k_333 k_331 k_332 k_51 ⟨Nat.le_of_ble_eq_true rfl, Nat.le_of_ble_eq_true rfl⟩ ⟨Nat.le_of_ble_eq_true rfl, Nat.le_of_ble_eq_true rfl⟩ hP hK [] rfl rfl hl.1 rfl (Nat.le_of_ble_eq_true rfl) d_X8_unit_48 (fun r_11 hr_12 => ?_)
        subst hr_12
        exact hret _ _ _ _ [] _ _ _ (hP.sub (ws' := []) [] rfl) (hD.sub (ws' := []) [] (by decide) rfl) hS (Nat.le_of_ble_eq_true rfl) (Nat.le_of_ble_eq_true rfl) d_X8_unit_51 (rfl) ⟨by unfold cu_sun; rw [if_neg hc_3, if_neg hc_5, if_pos hk_8], rfl⟩
      · skip
        by_cases hk_13 : c2 = 1
        · skip
          refine cu_topi (y := 1) hk_13 ?_
          refine lv_tableIn (off := 41) (tgt := 52) hx hb d_X8_unit_11 (by decide) (by decide) (by decide +kernel) (by decide) ?_
          refine lv_aload_n hx hb d_X8_unit_52 rfl (lv_at hl 0 rfl) ?_
          refine va_get (D := D) (ci := 6) (v := .ref nw) (C := RX8) (T := TX8) (N := 10) hx hb hg cu_iX8 hown hK.1 hP 0 rfl rfl 1 (by decide) (hg _ k_180) (fun _ h9 => h9) rfl d_X8_unit_53 ?_
          refine lv_iload_n hx hb d_X8_unit_56 rfl (lv_at hl 1 rfl) ?_
          refine cu_VR (wc := [(nw, .inr (2, [.ref w, .ref y, .ref a, .ref u, .int 0, .int 0, .int 1, .int 0]))]) (rest := []) [.int c1] ⟨hx, hb, hml, hown, hg⟩ (c_X3_explainedBy l D cI cZ cQ nw w y a u 1 0 c1) hd_X3_explainedBy k_420 k_417 k_418 k_419 k_45 ⟨Nat.le_of_ble_eq_true rfl, Nat.le_of_ble_eq_true rfl⟩ ⟨Nat.le_of_ble_eq_true rfl, Nat.le_of_ble_eq_true rfl⟩ hP hK [1] rfl 0 rfl rfl rfl hl.1 rfl (Nat.le_of_ble_eq_true rfl) d_X8_unit_57 (fun r_14 hr_15 => ?_)
          subst hr_15
          exact hret _ _ _ _ [] _ _ _ (hP.sub (ws' := []) [] rfl) (hD.sub (ws' := []) [] (by decide) rfl) hS (Nat.le_of_ble_eq_true rfl) (Nat.le_of_ble_eq_true rfl) d_X8_unit_60 (rfl) ⟨by unfold cu_sun; rw [if_neg hc_3, if_neg hc_5, if_neg hk_8, if_pos hk_13], rfl⟩
        · skip
          by_cases hk_16 : c2 = 2
          · skip
            refine cu_topi (y := 2) hk_16 ?_
            refine lv_tableIn (off := 50) (tgt := 61) hx hb d_X8_unit_11 (by decide) (by decide) (by decide +kernel) (by decide) ?_
            refine lv_aload_n hx hb d_X8_unit_61 rfl (lv_at hl 0 rfl) ?_
            refine va_get (D := D) (ci := 6) (v := .ref nw) (C := RX8) (T := TX8) (N := 10) hx hb hg cu_iX8 hown hK.1 hP 0 rfl rfl 1 (by decide) (hg _ k_180) (fun _ h9 => h9) rfl d_X8_unit_62 ?_
            refine lv_aload_n hx hb d_X8_unit_65 rfl (lv_at hl 0 rfl) ?_
            refine va_get (D := D) (ci := 6) (v := .ref nw) (C := RX8) (T := TX8) (N := 10) hx hb hg cu_iX8 hown hK.1 hP 0 rfl rfl 1 (by decide) (hg _ k_180) (fun _ h9 => h9) rfl d_X8_unit_66 ?_
            refine lv_iload_n hx hb d_X8_unit_69 rfl (lv_at hl 1 rfl) ?_
            refine cu_VR (wc := [(nw, .inr (2, [.ref w, .ref y, .ref a, .ref u, .int 0, .int 0, .int 1, .int 0]))]) (rest := [.ref nw]) [.int c1] ⟨hx, hb, hml, hown, hg⟩ (c_X3_explainedBy l D cI cZ cQ nw w y a u 1 0 c1) hd_X3_explainedBy k_420 k_417 k_418 k_419 k_45 ⟨Nat.le_of_ble_eq_true rfl, Nat.le_of_ble_eq_true rfl⟩ ⟨Nat.le_of_ble_eq_true rfl, Nat.le_of_ble_eq_true rfl⟩ hP hK [1] rfl 0 rfl rfl rfl hl.1 rfl (Nat.le_of_ble_eq_true rfl) d_X8_unit_70 (fun r_17 hr_18 => ?_)
            subst hr_18
            refine lv_iload_n hx hb d_X8_unit_73 rfl (lv_at hl 1 rfl) ?_
            refine cu_VR (wc := [(nw, .inr (2, [.ref w, .ref y, .ref a, .ref u, .int 0, .int 0, .int 1, .int 0]))]) (rest := []) [.int 0, .int c1] ⟨hx, hb, hml, hown, hg⟩ (c_X3_lossesOf l D cI cZ cQ nw w y a u 1 0 0 c1) hd_X3_lossesOf k_340 k_337 k_338 k_339 k_45 ⟨Nat.le_of_ble_eq_true rfl, Nat.le_of_ble_eq_true rfl⟩ ⟨Nat.le_of_ble_eq_true rfl, Nat.le_of_ble_eq_true rfl⟩ hP hK [1] rfl 0 rfl rfl rfl hl.1 rfl (Nat.le_of_ble_eq_true rfl) d_X8_unit_74 (fun r_19 hr_20 => ?_)
            subst hr_20
            exact hret _ _ _ _ [] _ _ _ (hP.sub (ws' := []) [] rfl) (hD.sub (ws' := []) [] (by decide) rfl) hS (Nat.le_of_ble_eq_true rfl) (Nat.le_of_ble_eq_true rfl) d_X8_unit_77 (rfl) ⟨by unfold cu_sun; rw [if_neg hc_3, if_neg hc_5, if_neg hk_8, if_neg hk_13, if_pos hk_16], rfl⟩
          · skip
            by_cases hk_21 : c2 = 3
            · skip
              refine cu_topi (y := 3) hk_21 ?_
              refine lv_tableIn (off := 67) (tgt := 78) hx hb d_X8_unit_11 (by decide) (by decide) (by decide +kernel) (by decide) ?_
              refine lv_aload_n hx hb d_X8_unit_78 rfl (lv_at hl 0 rfl) ?_
              refine cu_VQ (wc := [(x, .inr (6, [.ref tx, .ref nw, .ref sp, .ref ac, .ref cr, .ref sg, .ref sl, .ref fl, .null, .long 0])), (nw, .inr (2, [.ref w, .ref y, .ref a, .ref u, .int 0, .int 0, .int 1, .int 0]))]) (wr := []) (rest := []) [] ⟨hx, hb, hml, hown, hg⟩ (c_X8_surveyNow l D cI cZ cQ x tx nw sp ac cr sg sl fl w y a u) hd_X8_surveyNow k_424 k_421 k_423 k_7 k_43 ⟨Nat.le_of_ble_eq_true rfl, Nat.le_of_ble_eq_true rfl⟩ ⟨Nat.le_of_ble_eq_true rfl, Nat.le_of_ble_eq_true rfl⟩ hP hD hS hA hK [0, 1] [] rfl rfl (by decide) (by decide) (by decide) 0 rfl rfl rfl hl.1 rfl (Nat.le_of_ble_eq_true rfl) d_X8_unit_79 (fun r_22 w_24 H locs hw_23 hP hD hS => ?_)
              obtain ⟨q0_25, v1_26, v2_27, v3_28, v4_29, v5_30, hr_31⟩ := hw_23
              obtain ⟨hqa, hqb⟩ := Prod.mk.inj hr_31
              have hqa := hqa.symm
              subst hqa
              subst hqb
              have hP : va_P D vwCl [(x, .inr (6, [.ref tx, .ref nw, .ref sp, .ref ac, .ref cr, .ref sg, .ref sl, .ref fl, .ref q0_25, .long 0])), (nw, .inr (2, [.ref w, .ref y, .ref a, .ref u, .int 0, .int 0, .int 1, .int 0])), (q0_25, .inr (4, [.ref v1_26, .ref v2_27, .ref v3_28, .ref v4_29, .ref v5_30, .int 1, .int 0, .int 0, .int 0, .int 0, .int 0])), (v1_26, .inl (cI, 12, .inl (fun _ => 0))), (v2_27, .inl (cI, 12, .inl (fun _ => 0))), (v3_28, .inl (cI, 12000, .inl (fun _ => 0))), (v4_29, .inl (cI, 1000, .inl (fun _ => 0))), (v5_30, .inl (cI, 999, .inl (fun _ => 0)))] H := hP
              have hD : va_D A [(x, .inr (6, [.ref tx, .ref nw, .ref sp, .ref ac, .ref cr, .ref sg, .ref sl, .ref fl, .ref q0_25, .long 0])), (nw, .inr (2, [.ref w, .ref y, .ref a, .ref u, .int 0, .int 0, .int 1, .int 0])), (q0_25, .inr (4, [.ref v1_26, .ref v2_27, .ref v3_28, .ref v4_29, .ref v5_30, .int 1, .int 0, .int 0, .int 0, .int 0, .int 0])), (v1_26, .inl (cI, 12, .inl (fun _ => 0))), (v2_27, .inl (cI, 12, .inl (fun _ => 0))), (v3_28, .inl (cI, 12000, .inl (fun _ => 0))), (v4_29, .inl (cI, 1000, .inl (fun _ => 0))), (v5_30, .inl (cI, 999, .inl (fun _ => 0)))] := hD
              refine W.widen (k := 6) (n := 14034) (Nat.le_of_ble_eq_true rfl) (Nat.le_of_ble_eq_true rfl) ?_
              refine lv_iload_n hx hb d_X8_unit_82 rfl (lv_at hl 1 rfl) ?_
              obtain ⟨k9, hk9, e9⟩ := cu_nat 1 999 (by decide) (by decide) hc_3 hc_5
              refine cu_topi (y := nI k9) e9 ?_
              refine cu_VR (wc := [(q0_25, .inr (4, [.ref v1_26, .ref v2_27, .ref v3_28, .ref v4_29, .ref v5_30, .int 1, .int 0, .int 0, .int 0, .int 0, .int 0])), (v4_29, .inl (cI, 1000, .inl (fun _ => 0)))]) (rest := []) [.int (nI k9)] ⟨hx, hb, hml, hown, hg⟩ (c_X6_rankOf l D cI cZ cQ q0_25 v1_26 v2_27 v3_28 v4_29 v5_30 k9 (⟨by omega, by omega⟩)) hd_X6_rankOf k_485 k_482 k_483 k_484 k_53 ⟨Nat.le_of_ble_eq_true rfl, Nat.le_of_ble_eq_true rfl⟩ ⟨Nat.le_of_ble_eq_true rfl, Nat.le_of_ble_eq_true rfl⟩ hP hK [2, 6] rfl 0 rfl rfl rfl hl.1 rfl (Nat.le_of_ble_eq_true rfl) d_X8_unit_83 (fun r_32 hr_33 => ?_)
              subst hr_33
              exact hret _ _ _ _ [] _ _ _ (hP.sub (ws' := []) [] rfl) (hD.sub (ws' := []) [] (by decide) rfl) hS (Nat.le_of_ble_eq_true rfl) (Nat.le_of_ble_eq_true rfl) d_X8_unit_86 (rfl) ⟨by unfold cu_sun; rw [if_neg hc_3, if_neg hc_5, if_neg hk_8, if_neg hk_13, if_neg hk_16, if_pos hk_21]; rw [e9]; exact (cu_nsub (a := 999) (by omega)).symm, rfl⟩
            · skip
              refine lv_tableOut (tgt := 87) hx hb d_X8_unit_11 (cu_out4 hk_8 hk_13 hk_16 hk_21) (by decide) ?_
              refine lv_bipush (v := (-2)) hx hb d_X8_unit_87 (by decide) ?_
              exact hret _ _ _ _ [] _ _ _ (hP.sub (ws' := []) [] rfl) (hD.sub (ws' := []) [] (by decide) rfl) hS (Nat.le_of_ble_eq_true rfl) (Nat.le_of_ble_eq_true rfl) d_X8_unit_89 (rfl) ⟨by unfold cu_sun; rw [if_neg hc_3, if_neg hc_5, if_neg hk_8, if_neg hk_13, if_neg hk_16, if_neg hk_21], rfl⟩
set_option maxHeartbeats 4000000 in
set_option maxRecDepth 100000 in
theorem c_X6_countedColumns (l : Launch) (D : va_G) (cI cZ cQ : ClassId) (h w y a u v : Nat) (z1 z2 z3 z4 z5 z6 : Int32) : cu_R l D (cu_TY cI cZ cQ) yX6_countedColumns cX6_countedColumns 3 .int 0 0 [.ref h] [(h, .inr (4, [.ref w, .ref y, .ref a, .ref u, .ref v, .int z1, .int z2, .int z3, .int z4, .int z5, .int z6])), (w, .inl (cI, 12, .inl (fun _ => 0)))] (fun r => r = 0) := by
  refine cu_R.intro (by decide) (Nat.le_of_ble_eq_true rfl) ?_
  intro p e s m args below meth c Q ls S hret hP hK hl
  obtain ⟨hx, hb, hml, hown, hg⟩ := S
  have hown : s.vm.findClass RX6 = some m.cls := hown
  have hl : lv_has ls 3 [(0, .ref h)] := hl
  refine lv_iconst (v := 0) hx hb d_X6_countedColumns_0 (by decide) ?_
  refine lv_istore_n (lv' := [(1, .int 0), (0, .ref h)]) hx hb d_X6_countedColumns_1 rfl hl (by decide) rfl (fun ls hl => ?_)
  refine lv_iconst (v := 0) hx hb d_X6_countedColumns_2 (by decide) ?_
  refine lv_istore_n (lv' := [(2, .int 0), (1, .int 0), (0, .ref h)]) hx hb d_X6_countedColumns_3 rfl hl (by decide) rfl (fun ls hl => ?_)
  have key_1 : ∀ (n_3 j_2 : Nat) (hj_5 : j_2 + n_3 = 12)   (ls : Array Slot) (hl : lv_has ls 3 [(2, .int (nI j_2)), (1, .int 0), (0, .ref h)]), W p l e (cu_rm 0 0 0 0) s m args below meth c s.heap [] 0 0 Q (F0 m 4 ls []) := by
    intro n_3
    induction n_3 with
    | zero =>
      intro j_2 hj_5   ls hl
      obtain rfl : 12 = j_2 := by omega
      have hl : lv_has ls 3 [(2, .int 12), (1, .int 0), (0, .ref h)] := hl
      refine lv_iload_n hx hb d_X6_countedColumns_4 rfl (lv_at hl 0 rfl) ?_
      refine lv_bipush (v := 12) hx hb d_X6_countedColumns_5 (by decide) ?_
      refine lv_icmp_ge (tgt := 28) hx hb d_X6_countedColumns_7 (by decide) (fun _ => ?_) (fun c_6 => absurd (by decide +kernel) c_6)
      refine lv_iload_n hx hb d_X6_countedColumns_28 rfl (lv_at hl 1 rfl) ?_
      exact hret _ _ _ d_X6_countedColumns_29 (rfl) (rfl)
    | succ n_3 ih_4 =>
      intro j_2 hj_5   ls hl
      refine lv_iload_n hx hb d_X6_countedColumns_4 rfl (lv_at hl 0 rfl) ?_
      refine lv_bipush (v := 12) hx hb d_X6_countedColumns_5 (by decide) ?_
      refine lv_icmp_ge (tgt := 28) hx hb d_X6_countedColumns_7 (by decide) (fun c_7 => absurd c_7 (mt (nI_leI (a := 12) (b := j_2) (by omega) (by omega)).mp (by omega))) (fun _ => ?_)
      refine lv_aload_n hx hb d_X6_countedColumns_10 rfl (lv_at hl 2 rfl) ?_
      refine va_get (D := D) (ci := 4) (v := .ref w) (C := RX6) (T := TX6) (N := 11) hx hb hg cu_iX6 hown hK.1 hP 0 rfl rfl 0 (by decide) (hg _ k_431) (fun _ h9 => h9) rfl d_X6_countedColumns_11 ?_
      refine lv_iload_n hx hb d_X6_countedColumns_14 rfl (lv_at hl 0 rfl) ?_
      refine va_iald hx hb hK.1 hP 1 0 rfl rfl (vp_in_nI (by omega) (by decide)) d_X6_countedColumns_15 ?_
      refine cu_topi (y := 0) rfl ?_
      refine lv_if_le (tgt := 22) hx hb d_X6_countedColumns_16 (by decide) (fun _ => ?_) (fun c_8 => absurd (by decide +kernel) c_8)
      refine lv_iinc (v := nI (j_2 + 1)) (lv' := [(2, .int (nI (j_2 + 1))), (1, .int 0), (0, .ref h)]) hx hb d_X6_countedColumns_22 hl (k := 0) rfl (nI_1 j_2) (by decide) rfl (fun ls hl => ?_)
      refine lv_goto (tgt := 4) hx hb d_X6_countedColumns_25 (by decide) ?_
      exact ih_4 (j_2 + 1) (by first | rfl | omega)   _ (lv_sub hl [0, 1, 2] rfl)
  exact key_1 12 0 (by first | rfl | omega)   _ (lv_sub hl [0, 1, 2] rfl)
set_option maxHeartbeats 4000000 in
set_option maxRecDepth 100000 in
theorem c_X6_width (l : Launch) (D : va_G) (cI cZ cQ : ClassId) (h w y a u v : Nat) (z1 z2 z3 z4 z5 z6 : Int32) : cu_R l D (cu_TY cI cZ cQ) yX6_width cX6_width 3 .int 0 0 [.ref h] [(h, .inr (4, [.ref w, .ref y, .ref a, .ref u, .ref v, .int z1, .int z2, .int z3, .int z4, .int z5, .int z6])), (w, .inl (cI, 12, .inl (fun _ => 0)))] (fun r => r = 0) := by
  refine cu_R.intro (by decide) (Nat.le_of_ble_eq_true rfl) ?_
  intro p e s m args below meth c Q ls S hret hP hK hl
  obtain ⟨hx, hb, hml, hown, hg⟩ := S
  have hown : s.vm.findClass RX6 = some m.cls := hown
  have hl : lv_has ls 3 [(0, .ref h)] := hl
  refine lv_iconst (v := 0) hx hb d_X6_width_0 (by decide) ?_
  refine lv_istore_n (lv' := [(1, .int 0), (0, .ref h)]) hx hb d_X6_width_1 rfl hl (by decide) rfl (fun ls hl => ?_)
  refine lv_iconst (v := 0) hx hb d_X6_width_2 (by decide) ?_
  refine lv_istore_n (lv' := [(2, .int 0), (1, .int 0), (0, .ref h)]) hx hb d_X6_width_3 rfl hl (by decide) rfl (fun ls hl => ?_)
  have key_1 : ∀ (n_3 j_2 : Nat) (hj_5 : j_2 + n_3 = 12)   (ls : Array Slot) (hl : lv_has ls 3 [(2, .int (nI j_2)), (1, .int 0), (0, .ref h)]), W p l e (cu_rm 0 0 0 0) s m args below meth c s.heap [] 0 0 Q (F0 m 4 ls []) := by
    intro n_3
    induction n_3 with
    | zero =>
      intro j_2 hj_5   ls hl
      obtain rfl : 12 = j_2 := by omega
      have hl : lv_has ls 3 [(2, .int 12), (1, .int 0), (0, .ref h)] := hl
      refine lv_iload_n hx hb d_X6_width_4 rfl (lv_at hl 0 rfl) ?_
      refine lv_bipush (v := 12) hx hb d_X6_width_5 (by decide) ?_
      refine lv_icmp_ge (tgt := 29) hx hb d_X6_width_7 (by decide) (fun _ => ?_) (fun c_6 => absurd (by decide +kernel) c_6)
      refine lv_iload_n hx hb d_X6_width_29 rfl (lv_at hl 1 rfl) ?_
      exact hret _ _ _ d_X6_width_30 (rfl) (rfl)
    | succ n_3 ih_4 =>
      intro j_2 hj_5   ls hl
      refine lv_iload_n hx hb d_X6_width_4 rfl (lv_at hl 0 rfl) ?_
      refine lv_bipush (v := 12) hx hb d_X6_width_5 (by decide) ?_
      refine lv_icmp_ge (tgt := 29) hx hb d_X6_width_7 (by decide) (fun c_7 => absurd c_7 (mt (nI_leI (a := 12) (b := j_2) (by omega) (by omega)).mp (by omega))) (fun _ => ?_)
      refine lv_aload_n hx hb d_X6_width_10 rfl (lv_at hl 2 rfl) ?_
      refine va_get (D := D) (ci := 4) (v := .ref w) (C := RX6) (T := TX6) (N := 11) hx hb hg cu_iX6 hown hK.1 hP 0 rfl rfl 0 (by decide) (hg _ k_431) (fun _ h9 => h9) rfl d_X6_width_11 ?_
      refine lv_iload_n hx hb d_X6_width_14 rfl (lv_at hl 0 rfl) ?_
      refine va_iald hx hb hK.1 hP 1 0 rfl rfl (vp_in_nI (by omega) (by decide)) d_X6_width_15 ?_
      refine cu_topi (y := 0) rfl ?_
      refine lv_if_le (tgt := 23) hx hb d_X6_width_16 (by decide) (fun _ => ?_) (fun c_8 => absurd (by decide +kernel) c_8)
      refine lv_iinc (v := nI (j_2 + 1)) (lv' := [(2, .int (nI (j_2 + 1))), (1, .int 0), (0, .ref h)]) hx hb d_X6_width_23 hl (k := 0) rfl (nI_1 j_2) (by decide) rfl (fun ls hl => ?_)
      refine lv_goto (tgt := 4) hx hb d_X6_width_26 (by decide) ?_
      exact ih_4 (j_2 + 1) (by first | rfl | omega)   _ (lv_sub hl [0, 1, 2] rfl)
  exact key_1 12 0 (by first | rfl | omega)   _ (lv_sub hl [0, 1, 2] rfl)
set_option maxHeartbeats 4000000 in
set_option maxRecDepth 100000 in
theorem c_X6_bestUnit (l : Launch) (D : va_G) (cI cZ cQ : ClassId) (h w y a u v : Nat) (z1 z2 z3 z4 z5 z6 : Int32) : cu_R l D (cu_TY cI cZ cQ) yX6_bestUnit cX6_bestUnit 3 .int 0 0 [.ref h] [(h, .inr (4, [.ref w, .ref y, .ref a, .ref u, .ref v, .int z1, .int z2, .int z3, .int z4, .int z5, .int z6])), (u, .inl (cI, 1000, .inl (fun _ => 0)))] (fun r => r = 1) := by
  refine cu_R.intro (by decide) (Nat.le_of_ble_eq_true rfl) ?_
  intro p e s m args below meth c Q ls S hret hP hK hl
  obtain ⟨hx, hb, hml, hown, hg⟩ := S
  have hown : s.vm.findClass RX6 = some m.cls := hown
  have hl : lv_has ls 3 [(0, .ref h)] := hl
  refine lv_iconst (v := 1) hx hb d_X6_bestUnit_0 (by decide) ?_
  refine lv_istore_n (lv' := [(1, .int 1), (0, .ref h)]) hx hb d_X6_bestUnit_1 rfl hl (by decide) rfl (fun ls hl => ?_)
  refine lv_iconst (v := 2) hx hb d_X6_bestUnit_2 (by decide) ?_
  refine lv_istore_n (lv' := [(2, .int 2), (1, .int 1), (0, .ref h)]) hx hb d_X6_bestUnit_3 rfl hl (by decide) rfl (fun ls hl => ?_)
  have key_1 : ∀ (n_3 j_2 : Nat) (hj_5 : j_2 + n_3 = 1000)  (hi_6 : 2 ≤ j_2) (ls : Array Slot) (hl : lv_has ls 3 [(2, .int (nI j_2)), (1, .int 1), (0, .ref h)]), W p l e (cu_rm 0 0 0 0) s m args below meth c s.heap [] 0 0 Q (F0 m 4 ls []) := by
    intro n_3
    induction n_3 with
    | zero =>
      intro j_2 hj_5  hi_6 ls hl
      obtain rfl : 1000 = j_2 := by omega
      have hl : lv_has ls 3 [(2, .int 1000), (1, .int 1), (0, .ref h)] := hl
      refine lv_iload_n hx hb d_X6_bestUnit_4 rfl (lv_at hl 0 rfl) ?_
      refine lv_sipush (v := 999) hx hb d_X6_bestUnit_5 (by decide) ?_
      refine lv_icmp_gt (tgt := 34) hx hb d_X6_bestUnit_8 (by decide) (fun _ => ?_) (fun c_7 => absurd (by decide +kernel) c_7)
      refine lv_iload_n hx hb d_X6_bestUnit_34 rfl (lv_at hl 1 rfl) ?_
      exact hret _ _ _ d_X6_bestUnit_35 (rfl) (rfl)
    | succ n_3 ih_4 =>
      intro j_2 hj_5  hi_6 ls hl
      refine lv_iload_n hx hb d_X6_bestUnit_4 rfl (lv_at hl 0 rfl) ?_
      refine lv_sipush (v := 999) hx hb d_X6_bestUnit_5 (by decide) ?_
      refine lv_icmp_gt (tgt := 34) hx hb d_X6_bestUnit_8 (by decide) (fun c_8 => absurd c_8 (mt (nI_ltI (a := 999) (b := j_2) (by omega) (by omega)).mp (by omega))) (fun _ => ?_)
      refine lv_aload_n hx hb d_X6_bestUnit_11 rfl (lv_at hl 2 rfl) ?_
      refine va_get (D := D) (ci := 4) (v := .ref u) (C := RX6) (T := TX6) (N := 11) hx hb hg cu_iX6 hown hK.1 hP 0 rfl rfl 3 (by decide) (hg _ k_434) (fun _ h9 => h9) rfl d_X6_bestUnit_12 ?_
      refine lv_iload_n hx hb d_X6_bestUnit_15 rfl (lv_at hl 0 rfl) ?_
      refine va_iald hx hb hK.1 hP 1 0 rfl rfl (vp_in_nI (by omega) (by decide)) d_X6_bestUnit_16 ?_
      refine cu_topi (y := 0) rfl ?_
      refine lv_aload_n hx hb d_X6_bestUnit_17 rfl (lv_at hl 2 rfl) ?_
      refine va_get (D := D) (ci := 4) (v := .ref u) (C := RX6) (T := TX6) (N := 11) hx hb hg cu_iX6 hown hK.1 hP 0 rfl rfl 3 (by decide) (hg _ k_434) (fun _ h9 => h9) rfl d_X6_bestUnit_18 ?_
      refine lv_iload_n hx hb d_X6_bestUnit_21 rfl (lv_at hl 1 rfl) ?_
      refine va_iald hx hb hK.1 hP 1 0 rfl rfl (vp_in_nI (n := 1) (N := 1000) (Nat.le_of_ble_eq_true rfl) (by decide)) d_X6_bestUnit_22 ?_
      refine cu_topi (y := 0) rfl ?_
      refine lv_icmp_ge (tgt := 28) hx hb d_X6_bestUnit_23 (by decide) (fun _ => ?_) (fun c_9 => absurd (by decide +kernel) c_9)
      refine lv_iinc (v := nI (j_2 + 1)) (lv' := [(2, .int (nI (j_2 + 1))), (1, .int 1), (0, .ref h)]) hx hb d_X6_bestUnit_28 hl (k := 0) rfl (nI_1 j_2) (by decide) rfl (fun ls hl => ?_)
      refine lv_goto (tgt := 4) hx hb d_X6_bestUnit_31 (by decide) ?_
      exact ih_4 (j_2 + 1) (by first | rfl | omega)  (by omega) _ (lv_sub hl [0, 1, 2] rfl)
  exact key_1 998 2 (by first | rfl | omega)  (Nat.le_refl _) _ (lv_sub hl [0, 1, 2] rfl)
set_option maxHeartbeats 4000000 in
set_option maxRecDepth 100000 in
theorem c_X6_jointLack (l : Launch) (D : va_G) (cI cZ cQ : ClassId) (h w y a u v : Nat) (z1 z2 z3 z4 z5 z6 : Int32) (c1 c2 c4 : Int32) : cu_R l D (cu_TY cI cZ cQ) yX6_jointLack cX6_jointLack 11 .int 0 0 [.ref h, .int c1, .int c2, .int 0, .int c4] [(h, .inr (4, [.ref w, .ref y, .ref a, .ref u, .ref v, .int z1, .int z2, .int z3, .int z4, .int z5, .int z6]))] (fun r => r = 0) := by
  refine cu_R.intro (by decide) (Nat.le_of_ble_eq_true rfl) ?_
  intro p e s m args below meth c Q ls S hret hP hK hl
  obtain ⟨hx, hb, hml, hown, hg⟩ := S
  have hown : s.vm.findClass RX6 = some m.cls := hown
  have hl : lv_has ls 11 [(0, .ref h), (1, .int c1), (2, .int c2), (3, .int 0), (4, .int c4)] := hl
  refine lv_iload_n hx hb d_X6_jointLack_0 rfl (lv_at hl 1 rfl) ?_
  refine lv_bipush (v := 12) hx hb d_X6_jointLack_1 (by decide) ?_
  refine lv_imul hx hb d_X6_jointLack_3 ?_
  refine lv_istore (lv' := [(5, .int (c1 * 12)), (0, .ref h), (1, .int c1), (2, .int c2), (3, .int 0), (4, .int c4)]) hx hb d_X6_jointLack_4 hl (by decide) rfl (fun ls hl => ?_)
  refine lv_iload_n hx hb d_X6_jointLack_6 rfl (lv_at hl 3 rfl) ?_
  refine lv_bipush (v := 12) hx hb d_X6_jointLack_7 (by decide) ?_
  refine lv_imul hx hb d_X6_jointLack_9 ?_
  refine lv_istore (lv' := [(6, .int (c2 * 12)), (5, .int (c1 * 12)), (0, .ref h), (1, .int c1), (2, .int c2), (3, .int 0), (4, .int c4)]) hx hb d_X6_jointLack_10 hl (by decide) rfl (fun ls hl => ?_)
  refine lv_iconst (v := 0) hx hb d_X6_jointLack_12 (by decide) ?_
  refine lv_istore (lv' := [(7, .int 0), (6, .int (c2 * 12)), (5, .int (c1 * 12)), (0, .ref h), (1, .int c1), (2, .int c2), (3, .int 0), (4, .int c4)]) hx hb d_X6_jointLack_13 hl (by decide) rfl (fun ls hl => ?_)
  refine lv_iconst (v := 0) hx hb d_X6_jointLack_15 (by decide) ?_
  refine lv_istore (lv' := [(8, .int 0), (7, .int 0), (6, .int (c2 * 12)), (5, .int (c1 * 12)), (0, .ref h), (1, .int c1), (2, .int c2), (3, .int 0), (4, .int c4)]) hx hb d_X6_jointLack_16 hl (by decide) rfl (fun ls hl => ?_)
  refine lv_iload hx hb d_X6_jointLack_18 (lv_at hl 0 rfl) ?_
  refine lv_iload_n hx hb d_X6_jointLack_20 rfl (lv_at hl 7 rfl) ?_
  refine lv_icmp_ge (tgt := 80) hx hb d_X6_jointLack_21 (by decide) (fun _ => ?_) (fun c_1 => absurd (by decide +kernel) c_1)
  refine lv_iload hx hb d_X6_jointLack_80 (lv_at hl 1 rfl) ?_
  exact hret _ _ _ d_X6_jointLack_82 (rfl) (rfl)
set_option maxHeartbeats 4000000 in
set_option maxRecDepth 100000 in
theorem c_X6_leastWith (l : Launch) (D : va_G) (cI cZ cQ : ClassId) (h w y a u v : Nat) (z1 z2 z3 z4 z5 z6 : Int32) : cu_R l D (cu_TY cI cZ cQ) yX6_leastWith cX6_leastWith 5 .int 1 30 [.ref h, .int 1] [(h, .inr (4, [.ref w, .ref y, .ref a, .ref u, .ref v, .int z1, .int z2, .int z3, .int z4, .int z5, .int z6])), (w, .inl (cI, 12, .inl (fun _ => 0)))] (fun r => r = 0) := by
  refine cu_R.intro (by decide) (Nat.le_of_ble_eq_true rfl) ?_
  intro p e s m args below meth c Q ls S hret hP hK hl
  obtain ⟨hx, hb, hml, hown, hg⟩ := S
  have hown : s.vm.findClass RX6 = some m.cls := hown
  have hl : lv_has ls 5 [(0, .ref h), (1, .int 1)] := hl
  refine lv_ldc (v := 53248) hx hb hown (hg _ k_523) d_X6_leastWith_0 ?_
  refine lv_istore_n (lv' := [(2, .int 53248), (0, .ref h), (1, .int 1)]) hx hb d_X6_leastWith_2 rfl hl (by decide) rfl (fun ls hl => ?_)
  refine lv_aload_n hx hb d_X6_leastWith_3 rfl (lv_at hl 1 rfl) ?_
  refine cu_VR (wc := [(h, .inr (4, [.ref w, .ref y, .ref a, .ref u, .ref v, .int z1, .int z2, .int z3, .int z4, .int z5, .int z6])), (w, .inl (cI, 12, .inl (fun _ => 0)))]) (rest := []) [] ⟨hx, hb, hml, hown, hg⟩ (c_X6_width l D cI cZ cQ h w y a u v z1 z2 z3 z4 z5 z6) hd_X6_width k_527 k_524 k_526 k_14 k_53 ⟨Nat.le_of_ble_eq_true rfl, Nat.le_of_ble_eq_true rfl⟩ ⟨Nat.le_of_ble_eq_true rfl, Nat.le_of_ble_eq_true rfl⟩ hP hK [0, 1] rfl 0 rfl rfl rfl hl.1 rfl (Nat.le_of_ble_eq_true rfl) d_X6_leastWith_4 (fun r_1 hr_2 => ?_)
  subst hr_2
  refine lv_istore_n (lv' := [(3, .int 0), (2, .int 53248), (0, .ref h), (1, .int 1)]) hx hb d_X6_leastWith_7 rfl hl (by decide) rfl (fun ls hl => ?_)
  refine lv_iconst (v := 1) hx hb d_X6_leastWith_8 (by decide) ?_
  refine lv_istore (lv' := [(4, .int 1), (3, .int 0), (2, .int 53248), (0, .ref h), (1, .int 1)]) hx hb d_X6_leastWith_9 hl (by decide) rfl (fun ls hl => ?_)
  refine lv_iload hx hb d_X6_leastWith_11 (lv_at hl 0 rfl) ?_
  refine lv_sipush (v := 999) hx hb d_X6_leastWith_13 (by decide) ?_
  refine lv_icmp_gt (tgt := 45) hx hb d_X6_leastWith_16 (by decide) (fun c_3 => absurd c_3 (by decide +kernel)) (fun _ => ?_)
  refine lv_iload hx hb d_X6_leastWith_19 (lv_at hl 0 rfl) ?_
  refine lv_iload_n hx hb d_X6_leastWith_21 rfl (lv_at hl 4 rfl) ?_
  refine lv_icmp_eq (tgt := 39) hx hb d_X6_leastWith_22 (by decide) (fun _ => ?_) (fun c_4 => absurd (by decide +kernel) c_4)
  refine lv_iinc (v := 2) (lv' := [(4, .int 2), (3, .int 0), (2, .int 53248), (0, .ref h), (1, .int 1)]) hx hb d_X6_leastWith_39 hl (k := 0) rfl (by decide +kernel) (by decide) rfl (fun ls hl => ?_)
  refine lv_goto (tgt := 11) hx hb d_X6_leastWith_42 (by decide) ?_
  refine lv_iload hx hb d_X6_leastWith_11 (lv_at hl 0 rfl) ?_
  refine lv_sipush (v := 999) hx hb d_X6_leastWith_13 (by decide) ?_
  refine lv_icmp_gt (tgt := 45) hx hb d_X6_leastWith_16 (by decide) (fun c_5 => absurd c_5 (by decide +kernel)) (fun _ => ?_)
  refine lv_iload hx hb d_X6_leastWith_19 (lv_at hl 0 rfl) ?_
  refine lv_iload_n hx hb d_X6_leastWith_21 rfl (lv_at hl 4 rfl) ?_
  refine lv_icmp_eq (tgt := 39) hx hb d_X6_leastWith_22 (by decide) (fun c_6 => absurd c_6 (by decide +kernel)) (fun _ => ?_)
  refine lv_iload_n hx hb d_X6_leastWith_25 rfl (lv_at hl 2 rfl) ?_
  refine lv_aload_n hx hb d_X6_leastWith_26 rfl (lv_at hl 3 rfl) ?_
  refine lv_iload_n hx hb d_X6_leastWith_27 rfl (lv_at hl 4 rfl) ?_
  refine lv_iload hx hb d_X6_leastWith_28 (lv_at hl 0 rfl) ?_
  refine lv_iload_n hx hb d_X6_leastWith_30 rfl (lv_at hl 1 rfl) ?_
  refine lv_iload_n hx hb d_X6_leastWith_31 rfl (lv_at hl 2 rfl) ?_
  refine cu_VR (wc := [(h, .inr (4, [.ref w, .ref y, .ref a, .ref u, .ref v, .int z1, .int z2, .int z3, .int z4, .int z5, .int z6]))]) (rest := [.int 53248]) [.int 1, .int 2, .int 0, .int 53248] ⟨hx, hb, hml, hown, hg⟩ (c_X6_jointLack l D cI cZ cQ h w y a u v z1 z2 z3 z4 z5 z6 1 2 53248) hd_X6_jointLack k_531 k_528 k_530 k_15 k_53 ⟨Nat.le_of_ble_eq_true rfl, Nat.le_of_ble_eq_true rfl⟩ ⟨Nat.le_of_ble_eq_true rfl, Nat.le_of_ble_eq_true rfl⟩ hP hK [0] rfl 0 rfl rfl rfl hl.1 rfl (Nat.le_of_ble_eq_true rfl) d_X6_leastWith_32 (fun r_7 hr_8 => ?_)
  subst hr_8
  refine va_mmin hx hb (by rw [hml, hl.1]) hown (hg _ k_532) (hg _ k_361) (hg _ k_52) (hg _ k_362) (Nat.le_of_ble_eq_true rfl) (Nat.le_of_ble_eq_true rfl) (Nat.le_of_ble_eq_true rfl) (Nat.le_of_ble_eq_true rfl) d_X6_leastWith_35 ?_
  refine cu_topi (y := 0) (by decide +kernel) ?_
  refine lv_istore_n (lv' := [(2, .int 0), (4, .int 2), (3, .int 0), (0, .ref h), (1, .int 1)]) hx hb d_X6_leastWith_38 rfl hl (by decide) rfl (fun ls hl => ?_)
  refine lv_iinc (v := 3) (lv' := [(4, .int 3), (2, .int 0), (3, .int 0), (0, .ref h), (1, .int 1)]) hx hb d_X6_leastWith_39 hl (k := 1) rfl (by decide +kernel) (by decide) rfl (fun ls hl => ?_)
  refine lv_goto (tgt := 11) hx hb d_X6_leastWith_42 (by decide) ?_
  have key_9 : ∀ (n_11 j_10 : Nat) (hj_13 : j_10 + n_11 = 1000)  (hi_14 : 3 ≤ j_10) (ls : Array Slot) (hl : lv_has ls 5 [(4, .int (nI j_10)), (2, .int 0), (3, .int 0), (0, .ref h), (1, .int 1)]), W p l e (cu_rm 1 30 0 0) s m args below meth c s.heap [] 0 0 Q (F0 m 11 ls []) := by
    intro n_11
    induction n_11 with
    | zero =>
      intro j_10 hj_13  hi_14 ls hl
      obtain rfl : 1000 = j_10 := by omega
      have hl : lv_has ls 5 [(4, .int 1000), (2, .int 0), (3, .int 0), (0, .ref h), (1, .int 1)] := hl
      refine lv_iload hx hb d_X6_leastWith_11 (lv_at hl 0 rfl) ?_
      refine lv_sipush (v := 999) hx hb d_X6_leastWith_13 (by decide) ?_
      refine lv_icmp_gt (tgt := 45) hx hb d_X6_leastWith_16 (by decide) (fun _ => ?_) (fun c_15 => absurd (by decide +kernel) c_15)
      refine lv_iload_n hx hb d_X6_leastWith_45 rfl (lv_at hl 1 rfl) ?_
      exact hret _ _ _ d_X6_leastWith_46 (rfl) (rfl)
    | succ n_11 ih_12 =>
      intro j_10 hj_13  hi_14 ls hl
      refine lv_iload hx hb d_X6_leastWith_11 (lv_at hl 0 rfl) ?_
      refine lv_sipush (v := 999) hx hb d_X6_leastWith_13 (by decide) ?_
      refine lv_icmp_gt (tgt := 45) hx hb d_X6_leastWith_16 (by decide) (fun c_16 => absurd c_16 (mt (nI_ltI (a := 999) (b := j_10) (by omega) (by omega)).mp (by omega))) (fun _ => ?_)
      refine lv_iload hx hb d_X6_leastWith_19 (lv_at hl 0 rfl) ?_
      refine lv_iload_n hx hb d_X6_leastWith_21 rfl (lv_at hl 4 rfl) ?_
      refine lv_icmp_eq (tgt := 39) hx hb d_X6_leastWith_22 (by decide) (fun c_17 => absurd c_17 (mt (nI_eq (a := j_10) (b := 1) (by omega) (by omega)).mp (by omega))) (fun _ => ?_)
      refine lv_iload_n hx hb d_X6_leastWith_25 rfl (lv_at hl 1 rfl) ?_
      refine lv_aload_n hx hb d_X6_leastWith_26 rfl (lv_at hl 3 rfl) ?_
      refine lv_iload_n hx hb d_X6_leastWith_27 rfl (lv_at hl 4 rfl) ?_
      refine lv_iload hx hb d_X6_leastWith_28 (lv_at hl 0 rfl) ?_
      refine lv_iload_n hx hb d_X6_leastWith_30 rfl (lv_at hl 2 rfl) ?_
      refine lv_iload_n hx hb d_X6_leastWith_31 rfl (lv_at hl 1 rfl) ?_
      refine cu_VR (wc := [(h, .inr (4, [.ref w, .ref y, .ref a, .ref u, .ref v, .int z1, .int z2, .int z3, .int z4, .int z5, .int z6]))]) (rest := [.int 0]) [.int 1, .int (nI j_10), .int 0, .int 0] ⟨hx, hb, hml, hown, hg⟩ (c_X6_jointLack l D cI cZ cQ h w y a u v z1 z2 z3 z4 z5 z6 1 (nI j_10) 0) hd_X6_jointLack k_531 k_528 k_530 k_15 k_53 ⟨Nat.le_of_ble_eq_true rfl, Nat.le_of_ble_eq_true rfl⟩ ⟨Nat.le_of_ble_eq_true rfl, Nat.le_of_ble_eq_true rfl⟩ hP hK [0] rfl 0 rfl rfl rfl hl.1 rfl (Nat.le_of_ble_eq_true rfl) d_X6_leastWith_32 (fun r_18 hr_19 => ?_)
      subst hr_19
      refine va_mmin hx hb (by rw [hml, hl.1]) hown (hg _ k_532) (hg _ k_361) (hg _ k_52) (hg _ k_362) (Nat.le_of_ble_eq_true rfl) (Nat.le_of_ble_eq_true rfl) (Nat.le_of_ble_eq_true rfl) (Nat.le_of_ble_eq_true rfl) d_X6_leastWith_35 ?_
      refine cu_topi (y := 0) (by decide +kernel) ?_
      refine lv_istore_n (lv' := [(2, .int 0), (4, .int (nI j_10)), (3, .int 0), (0, .ref h), (1, .int 1)]) hx hb d_X6_leastWith_38 rfl hl (by decide) rfl (fun ls hl => ?_)
      refine lv_iinc (v := nI (j_10 + 1)) (lv' := [(4, .int (nI (j_10 + 1))), (2, .int 0), (3, .int 0), (0, .ref h), (1, .int 1)]) hx hb d_X6_leastWith_39 hl (k := 1) rfl (nI_1 j_10) (by decide) rfl (fun ls hl => ?_)
      refine lv_goto (tgt := 11) hx hb d_X6_leastWith_42 (by decide) ?_
      exact ih_12 (j_10 + 1) (by first | rfl | omega)  (by omega) _ (lv_sub hl [0, 1, 2, 3, 4] rfl)
  exact key_9 997 3 (by first | rfl | omega)  (Nat.le_refl _) _ (lv_sub hl [0, 1, 2, 3, 4] rfl)
set_option maxHeartbeats 4000000 in
set_option maxRecDepth 100000 in
theorem c_X6_findUpper (l : Launch) (D : va_G) (cI cZ cQ : ClassId) (h w y a u v : Nat) : cu_V l D (cu_TY cI cZ cQ) yX6_findUpper cX6_findUpper 6 1 30 0 0 [.ref h, .int 1, .int 0] [(h, .inr (4, [.ref w, .ref y, .ref a, .ref u, .ref v, .int 1, .int 0, .int 1, .int 0, .int 0, .int 1])), (w, .inl (cI, 12, .inl (fun _ => 0))), (u, .inl (cI, 1000, .inl (fun _ => 0)))] (fun ww => ww = [(h, .inr (4, [.ref w, .ref y, .ref a, .ref u, .ref v, .int 1, .int 0, .int 1, .int 1, .int 2, .int 0]))]) := by
  refine cu_V.intro (by decide) (Nat.le_of_ble_eq_true rfl) ?_
  intro p e s m args below meth c Q ls A S hin hret hP hD hS hA hK hl
  obtain ⟨hx, hb, hml, hown, hg⟩ := S
  have hown : s.vm.findClass RX6 = some m.cls := hown
  have hin : meth.name = "findUpper" := hin
  have hl : lv_has ls 6 [(0, .ref h), (1, .int 1), (2, .int 0)] := hl
  refine lv_aload_n hx hb d_X6_findUpper_0 rfl (lv_at hl 0 rfl) ?_
  refine cu_VR (wc := [(h, .inr (4, [.ref w, .ref y, .ref a, .ref u, .ref v, .int 1, .int 0, .int 1, .int 0, .int 0, .int 1])), (w, .inl (cI, 12, .inl (fun _ => 0)))]) (rest := []) [] ⟨hx, hb, hml, hown, hg⟩ (c_X6_width l D cI cZ cQ h w y a u v 1 0 1 0 0 1) hd_X6_width k_527 k_524 k_526 k_14 k_53 ⟨Nat.le_of_ble_eq_true rfl, Nat.le_of_ble_eq_true rfl⟩ ⟨Nat.le_of_ble_eq_true rfl, Nat.le_of_ble_eq_true rfl⟩ hP hK [0, 1] rfl 0 rfl rfl rfl hl.1 rfl (Nat.le_of_ble_eq_true rfl) d_X6_findUpper_1 (fun r_1 hr_2 => ?_)
  subst hr_2
  refine lv_istore_n (lv' := [(3, .int 0), (0, .ref h), (1, .int 1), (2, .int 0)]) hx hb d_X6_findUpper_4 rfl hl (by decide) rfl (fun ls hl => ?_)
  refine lv_iload_n hx hb d_X6_findUpper_5 rfl (lv_at hl 2 rfl) ?_
  refine lv_iconst (v := 1) hx hb d_X6_findUpper_6 (by decide) ?_
  refine lv_iadd hx hb d_X6_findUpper_7 ?_
  refine cu_topi (y := 2) (by decide +kernel) ?_
  refine lv_istore (lv' := [(4, .int 2), (3, .int 0), (0, .ref h), (1, .int 1), (2, .int 0)]) hx hb d_X6_findUpper_8 hl (by decide) rfl (fun ls hl => ?_)
  refine lv_iload hx hb d_X6_findUpper_10 (lv_at hl 0 rfl) ?_
  refine lv_sipush (v := 999) hx hb d_X6_findUpper_12 (by decide) ?_
  refine lv_icmp_gt (tgt := 94) hx hb d_X6_findUpper_15 (by decide) (fun c_3 => absurd c_3 (by decide +kernel)) (fun _ => ?_)
  refine lv_aload_n hx hb d_X6_findUpper_18 rfl (lv_at hl 2 rfl) ?_
  refine va_get (D := D) (ci := 4) (v := .int 1) (C := RX6) (T := TX6) (N := 11) hx hb hg cu_iX6 hown hK.1 hP 0 rfl rfl 10 (by decide) (hg _ k_444) (fun _ h9 => h9) rfl d_X6_findUpper_19 ?_
  refine lv_if_le (tgt := 94) hx hb d_X6_findUpper_22 (by decide) (fun c_4 => absurd c_4 (by decide +kernel)) (fun _ => ?_)
  refine lv_aload_n hx hb d_X6_findUpper_25 rfl (lv_at hl 2 rfl) ?_
  refine va_get (D := D) (ci := 4) (v := .ref u) (C := RX6) (T := TX6) (N := 11) hx hb hg cu_iX6 hown hK.1 hP 0 rfl rfl 3 (by decide) (hg _ k_434) (fun _ h9 => h9) rfl d_X6_findUpper_26 ?_
  refine lv_iload_n hx hb d_X6_findUpper_29 rfl (lv_at hl 3 rfl) ?_
  refine va_iald hx hb hK.1 hP 2 0 rfl rfl (vp_in_nI (n := 1) (N := 1000) (Nat.le_of_ble_eq_true rfl) (by decide)) d_X6_findUpper_30 ?_
  refine cu_topi (y := 0) rfl ?_
  refine lv_aload_n hx hb d_X6_findUpper_31 rfl (lv_at hl 2 rfl) ?_
  refine va_get (D := D) (ci := 4) (v := .ref u) (C := RX6) (T := TX6) (N := 11) hx hb hg cu_iX6 hown hK.1 hP 0 rfl rfl 3 (by decide) (hg _ k_434) (fun _ h9 => h9) rfl d_X6_findUpper_32 ?_
  refine lv_iload hx hb d_X6_findUpper_35 (lv_at hl 0 rfl) ?_
  refine va_iald hx hb hK.1 hP 2 0 rfl rfl (vp_in_nI (n := 2) (N := 1000) (Nat.le_of_ble_eq_true rfl) (by decide)) d_X6_findUpper_37 ?_
  refine cu_topi (y := 0) rfl ?_
  refine lv_iadd hx hb d_X6_findUpper_38 ?_
  refine cu_topi (y := 0) (by decide +kernel) ?_
  refine lv_iload_n hx hb d_X6_findUpper_39 rfl (lv_at hl 4 rfl) ?_
  refine lv_isub hx hb d_X6_findUpper_40 ?_
  refine cu_topi (y := 0) (by decide +kernel) ?_
  refine lv_aload_n hx hb d_X6_findUpper_41 rfl (lv_at hl 2 rfl) ?_
  refine va_get (D := D) (ci := 4) (v := .int 1) (C := RX6) (T := TX6) (N := 11) hx hb hg cu_iX6 hown hK.1 hP 0 rfl rfl 10 (by decide) (hg _ k_444) (fun _ h9 => h9) rfl d_X6_findUpper_42 ?_
  refine lv_icmp_ge (tgt := 88) hx hb d_X6_findUpper_45 (by decide) (fun c_5 => absurd c_5 (by decide +kernel)) (fun _ => ?_)
  refine lv_aload_n hx hb d_X6_findUpper_48 rfl (lv_at hl 2 rfl) ?_
  refine lv_iload_n hx hb d_X6_findUpper_49 rfl (lv_at hl 3 rfl) ?_
  refine lv_iload hx hb d_X6_findUpper_50 (lv_at hl 0 rfl) ?_
  refine lv_iload_n hx hb d_X6_findUpper_52 rfl (lv_at hl 1 rfl) ?_
  refine lv_aload_n hx hb d_X6_findUpper_53 rfl (lv_at hl 2 rfl) ?_
  refine va_get (D := D) (ci := 4) (v := .int 1) (C := RX6) (T := TX6) (N := 11) hx hb hg cu_iX6 hown hK.1 hP 0 rfl rfl 10 (by decide) (hg _ k_444) (fun _ h9 => h9) rfl d_X6_findUpper_54 ?_
  refine cu_VR (wc := [(h, .inr (4, [.ref w, .ref y, .ref a, .ref u, .ref v, .int 1, .int 0, .int 1, .int 0, .int 0, .int 1]))]) (rest := []) [.int 1, .int 2, .int 0, .int 1] ⟨hx, hb, hml, hown, hg⟩ (c_X6_jointLack l D cI cZ cQ h w y a u v 1 0 1 0 0 1 1 2 1) hd_X6_jointLack k_531 k_528 k_530 k_15 k_53 ⟨Nat.le_of_ble_eq_true rfl, Nat.le_of_ble_eq_true rfl⟩ ⟨Nat.le_of_ble_eq_true rfl, Nat.le_of_ble_eq_true rfl⟩ hP hK [0] rfl 0 rfl rfl rfl hl.1 rfl (Nat.le_of_ble_eq_true rfl) d_X6_findUpper_57 (fun r_6 hr_7 => ?_)
  subst hr_7
  refine lv_istore (lv' := [(5, .int 0), (4, .int 2), (3, .int 0), (0, .ref h), (1, .int 1), (2, .int 0)]) hx hb d_X6_findUpper_60 hl (by decide) rfl (fun ls hl => ?_)
  refine lv_iload hx hb d_X6_findUpper_62 (lv_at hl 0 rfl) ?_
  refine lv_aload_n hx hb d_X6_findUpper_64 rfl (lv_at hl 3 rfl) ?_
  refine va_get (D := D) (ci := 4) (v := .int 1) (C := RX6) (T := TX6) (N := 11) hx hb hg cu_iX6 hown hK.1 hP 0 rfl rfl 10 (by decide) (hg _ k_444) (fun _ h9 => h9) rfl d_X6_findUpper_65 ?_
  refine lv_icmp_ge (tgt := 88) hx hb d_X6_findUpper_68 (by decide) (fun c_8 => absurd c_8 (by decide +kernel)) (fun _ => ?_)
  refine lv_aload_n hx hb d_X6_findUpper_71 rfl (lv_at hl 3 rfl) ?_
  refine lv_iload hx hb d_X6_findUpper_72 (lv_at hl 0 rfl) ?_
  refine va_put (D := D) (ci := 4) (v := .int 0) (ty := .int) (C := RX6) (T := TX6) (N := 11) hx hb hg cu_iX6 tyX6 tyX6_ok nmX6 hown hK.1 hP hD hS 0 rfl rfl 10 (by decide) (hg _ k_444) (fun _ h9 => h9) rfl (by decide +kernel) rfl rfl (Nat.le_of_ble_eq_true rfl) d_X6_findUpper_74 (fun H locs hP hD hS => ?_)
  have hP : va_P D vwCl [(h, .inr (4, [.ref w, .ref y, .ref a, .ref u, .ref v, .int 1, .int 0, .int 1, .int 0, .int 0, .int 0])), (w, .inl (cI, 12, .inl (fun _ => 0))), (u, .inl (cI, 1000, .inl (fun _ => 0)))] H := hP
  have hD : va_D A [(h, .inr (4, [.ref w, .ref y, .ref a, .ref u, .ref v, .int 1, .int 0, .int 1, .int 0, .int 0, .int 0])), (w, .inl (cI, 12, .inl (fun _ => 0))), (u, .inl (cI, 1000, .inl (fun _ => 0)))] := hD
  refine lv_aload_n hx hb d_X6_findUpper_77 rfl (lv_at hl 3 rfl) ?_
  refine lv_iload_n hx hb d_X6_findUpper_78 rfl (lv_at hl 4 rfl) ?_
  refine va_put (D := D) (ci := 4) (v := .int 1) (ty := .int) (C := RX6) (T := TX6) (N := 11) hx hb hg cu_iX6 tyX6 tyX6_ok nmX6 hown hK.1 hP hD hS 0 rfl rfl 8 (by decide) (hg _ k_440) (fun _ h9 => h9) rfl (by decide +kernel) rfl rfl (Nat.le_of_ble_eq_true rfl) d_X6_findUpper_79 (fun H locs hP hD hS => ?_)
  have hP : va_P D vwCl [(h, .inr (4, [.ref w, .ref y, .ref a, .ref u, .ref v, .int 1, .int 0, .int 1, .int 1, .int 0, .int 0])), (w, .inl (cI, 12, .inl (fun _ => 0))), (u, .inl (cI, 1000, .inl (fun _ => 0)))] H := hP
  have hD : va_D A [(h, .inr (4, [.ref w, .ref y, .ref a, .ref u, .ref v, .int 1, .int 0, .int 1, .int 1, .int 0, .int 0])), (w, .inl (cI, 12, .inl (fun _ => 0))), (u, .inl (cI, 1000, .inl (fun _ => 0)))] := hD
  refine lv_aload_n hx hb d_X6_findUpper_82 rfl (lv_at hl 3 rfl) ?_
  refine lv_iload hx hb d_X6_findUpper_83 (lv_at hl 1 rfl) ?_
  refine va_put (D := D) (ci := 4) (v := .int 2) (ty := .int) (C := RX6) (T := TX6) (N := 11) hx hb hg cu_iX6 tyX6 tyX6_ok nmX6 hown hK.1 hP hD hS 0 rfl rfl 9 (by decide) (hg _ k_442) (fun _ h9 => h9) rfl (by decide +kernel) rfl rfl (Nat.le_of_ble_eq_true rfl) d_X6_findUpper_85 (fun H locs hP hD hS => ?_)
  have hP : va_P D vwCl [(h, .inr (4, [.ref w, .ref y, .ref a, .ref u, .ref v, .int 1, .int 0, .int 1, .int 1, .int 2, .int 0])), (w, .inl (cI, 12, .inl (fun _ => 0))), (u, .inl (cI, 1000, .inl (fun _ => 0)))] H := hP
  have hD : va_D A [(h, .inr (4, [.ref w, .ref y, .ref a, .ref u, .ref v, .int 1, .int 0, .int 1, .int 1, .int 2, .int 0])), (w, .inl (cI, 12, .inl (fun _ => 0))), (u, .inl (cI, 1000, .inl (fun _ => 0)))] := hD
  refine lv_iinc (v := 3) (lv' := [(4, .int 3), (5, .int 0), (3, .int 0), (0, .ref h), (1, .int 1), (2, .int 0)]) hx hb d_X6_findUpper_88 hl (k := 1) rfl (by decide +kernel) (by decide) rfl (fun ls hl => ?_)
  refine lv_goto (tgt := 10) hx hb d_X6_findUpper_91 (by decide) ?_
  refine lv_iload hx hb d_X6_findUpper_10 (lv_at hl 0 rfl) ?_
  refine lv_sipush (v := 999) hx hb d_X6_findUpper_12 (by decide) ?_
  refine lv_icmp_gt (tgt := 94) hx hb d_X6_findUpper_15 (by decide) (fun c_9 => absurd c_9 (by decide +kernel)) (fun _ => ?_)
  refine lv_aload_n hx hb d_X6_findUpper_18 rfl (lv_at hl 3 rfl) ?_
  refine va_get (D := D) (ci := 4) (v := .int 0) (C := RX6) (T := TX6) (N := 11) hx hb hg cu_iX6 hown hK.1 hP 0 rfl rfl 10 (by decide) (hg _ k_444) (fun _ h9 => h9) rfl d_X6_findUpper_19 ?_
  refine lv_if_le (tgt := 94) hx hb d_X6_findUpper_22 (by decide) (fun _ => ?_) (fun c_10 => absurd (by decide +kernel) c_10)
  exact hret _ _ _ _ [(h, .inr (4, [.ref w, .ref y, .ref a, .ref u, .ref v, .int 1, .int 0, .int 1, .int 1, .int 2, .int 0]))] _ _ (hP.sub (ws' := [(h, .inr (4, [.ref w, .ref y, .ref a, .ref u, .ref v, .int 1, .int 0, .int 1, .int 1, .int 2, .int 0]))]) [0] rfl) (hD.sub (ws' := [(h, .inr (4, [.ref w, .ref y, .ref a, .ref u, .ref v, .int 1, .int 0, .int 1, .int 1, .int 2, .int 0]))]) [0] (by decide) rfl) hS (Nat.le_of_ble_eq_true rfl) (Nat.le_of_ble_eq_true rfl) d_X6_findUpper_94 rfl
set_option maxHeartbeats 4000000 in
set_option maxRecDepth 100000 in
theorem c_X6_findPair (l : Launch) (D : va_G) (cI cZ cQ : ClassId) (h w y a u v : Nat) : cu_V l D (cu_TY cI cZ cQ) yX6_findPair cX6_findPair 4 2 55 0 0 [.ref h] [(h, .inr (4, [.ref w, .ref y, .ref a, .ref u, .ref v, .int 1, .int 0, .int 0, .int 0, .int 0, .int 0])), (w, .inl (cI, 12, .inl (fun _ => 0))), (u, .inl (cI, 1000, .inl (fun _ => 0)))] (fun ww => ww = [(h, .inr (4, [.ref w, .ref y, .ref a, .ref u, .ref v, .int 1, .int 0, .int 1, .int 1, .int 2, .int 0]))]) := by
  refine cu_V.intro (by decide) (Nat.le_of_ble_eq_true rfl) ?_
  intro p e s m args below meth c Q ls A S hin hret hP hD hS hA hK hl
  obtain ⟨hx, hb, hml, hown, hg⟩ := S
  have hown : s.vm.findClass RX6 = some m.cls := hown
  have hin : meth.name = "findPair" := hin
  have hl : lv_has ls 4 [(0, .ref h)] := hl
  refine lv_aload_n hx hb d_X6_findPair_0 rfl (lv_at hl 0 rfl) ?_
  refine va_get (D := D) (ci := 4) (v := .int 0) (C := RX6) (T := TX6) (N := 11) hx hb hg cu_iX6 hown hK.1 hP 0 rfl rfl 7 (by decide) (hg _ k_439) (fun _ h9 => h9) rfl d_X6_findPair_1 ?_
  refine lv_aload_n hx hb d_X6_findPair_4 rfl (lv_at hl 0 rfl) ?_
  refine va_get (D := D) (ci := 4) (v := .int 1) (C := RX6) (T := TX6) (N := 11) hx hb hg cu_iX6 hown hK.1 hP 0 rfl rfl 5 (by decide) (hg _ k_436) (fun _ h9 => h9) rfl d_X6_findPair_5 ?_
  refine lv_icmp_ne (tgt := 12) hx hb d_X6_findPair_8 (by decide) (fun _ => ?_) (fun c_1 => absurd c_1 (by decide +kernel))
  refine lv_aload_n hx hb d_X6_findPair_12 rfl (lv_at hl 0 rfl) ?_
  refine lv_aload_n hx hb d_X6_findPair_13 rfl (lv_at hl 0 rfl) ?_
  refine va_get (D := D) (ci := 4) (v := .int 1) (C := RX6) (T := TX6) (N := 11) hx hb hg cu_iX6 hown hK.1 hP 0 rfl rfl 5 (by decide) (hg _ k_436) (fun _ h9 => h9) rfl d_X6_findPair_14 ?_
  refine va_put (D := D) (ci := 4) (v := .int 1) (ty := .int) (C := RX6) (T := TX6) (N := 11) hx hb hg cu_iX6 tyX6 tyX6_ok nmX6 hown hK.1 hP hD hS 0 rfl rfl 7 (by decide) (hg _ k_439) (fun _ h9 => h9) rfl (by decide +kernel) rfl rfl (Nat.le_of_ble_eq_true rfl) d_X6_findPair_17 (fun H locs hP hD hS => ?_)
  have hP : va_P D vwCl [(h, .inr (4, [.ref w, .ref y, .ref a, .ref u, .ref v, .int 1, .int 0, .int 1, .int 0, .int 0, .int 0])), (w, .inl (cI, 12, .inl (fun _ => 0))), (u, .inl (cI, 1000, .inl (fun _ => 0)))] H := hP
  have hD : va_D A [(h, .inr (4, [.ref w, .ref y, .ref a, .ref u, .ref v, .int 1, .int 0, .int 1, .int 0, .int 0, .int 0])), (w, .inl (cI, 12, .inl (fun _ => 0))), (u, .inl (cI, 1000, .inl (fun _ => 0)))] := hD
  refine lv_aload_n hx hb d_X6_findPair_20 rfl (lv_at hl 0 rfl) ?_
  refine cu_VR (wc := [(h, .inr (4, [.ref w, .ref y, .ref a, .ref u, .ref v, .int 1, .int 0, .int 1, .int 0, .int 0, .int 0])), (u, .inl (cI, 1000, .inl (fun _ => 0)))]) (rest := []) [] ⟨hx, hb, hml, hown, hg⟩ (c_X6_bestUnit l D cI cZ cQ h w y a u v 1 0 1 0 0 0) hd_X6_bestUnit k_514 k_511 k_513 k_11 k_53 ⟨Nat.le_of_ble_eq_true rfl, Nat.le_of_ble_eq_true rfl⟩ ⟨Nat.le_of_ble_eq_true rfl, Nat.le_of_ble_eq_true rfl⟩ hP hK [0, 2] rfl 0 rfl rfl rfl hl.1 rfl (Nat.le_of_ble_eq_true rfl) d_X6_findPair_21 (fun r_2 hr_3 => ?_)
  subst hr_3
  refine lv_istore_n (lv' := [(1, .int 1), (0, .ref h)]) hx hb d_X6_findPair_24 rfl hl (by decide) rfl (fun ls hl => ?_)
  refine lv_aload_n hx hb d_X6_findPair_25 rfl (lv_at hl 1 rfl) ?_
  refine cu_VR (wc := [(h, .inr (4, [.ref w, .ref y, .ref a, .ref u, .ref v, .int 1, .int 0, .int 1, .int 0, .int 0, .int 0])), (w, .inl (cI, 12, .inl (fun _ => 0)))]) (rest := []) [] ⟨hx, hb, hml, hown, hg⟩ (c_X6_countedColumns l D cI cZ cQ h w y a u v 1 0 1 0 0 0) hd_X6_countedColumns k_518 k_515 k_517 k_12 k_53 ⟨Nat.le_of_ble_eq_true rfl, Nat.le_of_ble_eq_true rfl⟩ ⟨Nat.le_of_ble_eq_true rfl, Nat.le_of_ble_eq_true rfl⟩ hP hK [0, 1] rfl 0 rfl rfl rfl hl.1 rfl (Nat.le_of_ble_eq_true rfl) d_X6_findPair_26 (fun r_4 hr_5 => ?_)
  subst hr_5
  refine lv_sipush (v := 4096) hx hb d_X6_findPair_29 (by decide) ?_
  refine lv_imul hx hb d_X6_findPair_32 ?_
  refine cu_topi (y := 0) (by decide +kernel) ?_
  refine lv_istore_n (lv' := [(2, .int 0), (1, .int 1), (0, .ref h)]) hx hb d_X6_findPair_33 rfl hl (by decide) rfl (fun ls hl => ?_)
  refine lv_aload_n hx hb d_X6_findPair_34 rfl (lv_at hl 2 rfl) ?_
  refine lv_aload_n hx hb d_X6_findPair_35 rfl (lv_at hl 2 rfl) ?_
  refine lv_iload_n hx hb d_X6_findPair_36 rfl (lv_at hl 1 rfl) ?_
  refine cu_VR (wc := [(h, .inr (4, [.ref w, .ref y, .ref a, .ref u, .ref v, .int 1, .int 0, .int 1, .int 0, .int 0, .int 0])), (w, .inl (cI, 12, .inl (fun _ => 0)))]) (rest := [.ref h]) [.int 1] ⟨hx, hb, hml, hown, hg⟩ (c_X6_leastWith l D cI cZ cQ h w y a u v 1 0 1 0 0 0) hd_X6_leastWith k_522 k_519 k_521 k_13 k_53 ⟨Nat.le_of_ble_eq_true rfl, Nat.le_of_ble_eq_true rfl⟩ ⟨Nat.le_of_ble_eq_true rfl, Nat.le_of_ble_eq_true rfl⟩ hP hK [0, 1] rfl 0 rfl rfl rfl hl.1 rfl (Nat.le_of_ble_eq_true rfl) d_X6_findPair_37 (fun r_6 hr_7 => ?_)
  subst hr_7
  refine lv_iconst (v := 1) hx hb d_X6_findPair_40 (by decide) ?_
  refine lv_iadd hx hb d_X6_findPair_41 ?_
  refine cu_topi (y := 1) (by decide +kernel) ?_
  refine va_put (D := D) (ci := 4) (v := .int 1) (ty := .int) (C := RX6) (T := TX6) (N := 11) hx hb hg cu_iX6 tyX6 tyX6_ok nmX6 hown hK.1 hP hD hS 0 rfl rfl 10 (by decide) (hg _ k_444) (fun _ h9 => h9) rfl (by decide +kernel) rfl rfl (Nat.le_of_ble_eq_true rfl) d_X6_findPair_42 (fun H locs hP hD hS => ?_)
  have hP : va_P D vwCl [(h, .inr (4, [.ref w, .ref y, .ref a, .ref u, .ref v, .int 1, .int 0, .int 1, .int 0, .int 0, .int 1])), (w, .inl (cI, 12, .inl (fun _ => 0))), (u, .inl (cI, 1000, .inl (fun _ => 0)))] H := hP
  have hD : va_D A [(h, .inr (4, [.ref w, .ref y, .ref a, .ref u, .ref v, .int 1, .int 0, .int 1, .int 0, .int 0, .int 1])), (w, .inl (cI, 12, .inl (fun _ => 0))), (u, .inl (cI, 1000, .inl (fun _ => 0)))] := hD
  refine lv_iconst (v := 1) hx hb d_X6_findPair_45 (by decide) ?_
  refine lv_istore_n (lv' := [(3, .int 1), (2, .int 0), (1, .int 1), (0, .ref h)]) hx hb d_X6_findPair_46 rfl hl (by decide) rfl (fun ls hl => ?_)
  refine lv_iload_n hx hb d_X6_findPair_47 rfl (lv_at hl 0 rfl) ?_
  refine lv_sipush (v := 999) hx hb d_X6_findPair_48 (by decide) ?_
  refine lv_icmp_ge (tgt := 95) hx hb d_X6_findPair_51 (by decide) (fun c_8 => absurd c_8 (by decide +kernel)) (fun _ => ?_)
  refine lv_aload_n hx hb d_X6_findPair_54 rfl (lv_at hl 3 rfl) ?_
  refine va_get (D := D) (ci := 4) (v := .int 1) (C := RX6) (T := TX6) (N := 11) hx hb hg cu_iX6 hown hK.1 hP 0 rfl rfl 10 (by decide) (hg _ k_444) (fun _ h9 => h9) rfl d_X6_findPair_55 ?_
  refine lv_if_le (tgt := 95) hx hb d_X6_findPair_58 (by decide) (fun c_9 => absurd c_9 (by decide +kernel)) (fun _ => ?_)
  refine lv_aload_n hx hb d_X6_findPair_61 rfl (lv_at hl 3 rfl) ?_
  refine va_get (D := D) (ci := 4) (v := .ref u) (C := RX6) (T := TX6) (N := 11) hx hb hg cu_iX6 hown hK.1 hP 0 rfl rfl 3 (by decide) (hg _ k_434) (fun _ h9 => h9) rfl d_X6_findPair_62 ?_
  refine lv_iload_n hx hb d_X6_findPair_65 rfl (lv_at hl 0 rfl) ?_
  refine va_iald hx hb hK.1 hP 2 0 rfl rfl (vp_in_nI (n := 1) (N := 1000) (Nat.le_of_ble_eq_true rfl) (by decide)) d_X6_findPair_66 ?_
  refine cu_topi (y := 0) rfl ?_
  refine lv_aload_n hx hb d_X6_findPair_67 rfl (lv_at hl 3 rfl) ?_
  refine va_get (D := D) (ci := 4) (v := .ref u) (C := RX6) (T := TX6) (N := 11) hx hb hg cu_iX6 hown hK.1 hP 0 rfl rfl 3 (by decide) (hg _ k_434) (fun _ h9 => h9) rfl d_X6_findPair_68 ?_
  refine lv_iload_n hx hb d_X6_findPair_71 rfl (lv_at hl 2 rfl) ?_
  refine va_iald hx hb hK.1 hP 2 0 rfl rfl (vp_in_nI (n := 1) (N := 1000) (Nat.le_of_ble_eq_true rfl) (by decide)) d_X6_findPair_72 ?_
  refine cu_topi (y := 0) rfl ?_
  refine lv_iadd hx hb d_X6_findPair_73 ?_
  refine cu_topi (y := 0) (by decide +kernel) ?_
  refine lv_iload_n hx hb d_X6_findPair_74 rfl (lv_at hl 1 rfl) ?_
  refine lv_isub hx hb d_X6_findPair_75 ?_
  refine cu_topi (y := 0) (by decide +kernel) ?_
  refine lv_aload_n hx hb d_X6_findPair_76 rfl (lv_at hl 3 rfl) ?_
  refine va_get (D := D) (ci := 4) (v := .int 1) (C := RX6) (T := TX6) (N := 11) hx hb hg cu_iX6 hown hK.1 hP 0 rfl rfl 10 (by decide) (hg _ k_444) (fun _ h9 => h9) rfl d_X6_findPair_77 ?_
  refine lv_icmp_ge (tgt := 89) hx hb d_X6_findPair_80 (by decide) (fun c_10 => absurd c_10 (by decide +kernel)) (fun _ => ?_)
  refine lv_aload_n hx hb d_X6_findPair_83 rfl (lv_at hl 3 rfl) ?_
  refine lv_iload_n hx hb d_X6_findPair_84 rfl (lv_at hl 0 rfl) ?_
  refine lv_iload_n hx hb d_X6_findPair_85 rfl (lv_at hl 1 rfl) ?_
  refine cu_VV (wc := [(h, .inr (4, [.ref w, .ref y, .ref a, .ref u, .ref v, .int 1, .int 0, .int 1, .int 0, .int 0, .int 1])), (w, .inl (cI, 12, .inl (fun _ => 0))), (u, .inl (cI, 1000, .inl (fun _ => 0)))]) (wr := []) (rest := []) [.int 1, .int 0] ⟨hx, hb, hml, hown, hg⟩ (c_X6_findUpper l D cI cZ cQ h w y a u v) hd_X6_findUpper k_536 k_533 k_535 k_16 k_53 ⟨Nat.le_of_ble_eq_true rfl, Nat.le_of_ble_eq_true rfl⟩ ⟨Nat.le_of_ble_eq_true rfl, Nat.le_of_ble_eq_true rfl⟩ hP hD hS hA hK [0, 1, 2] [] rfl rfl (by decide) (by decide) (by decide) 0 rfl rfl rfl hl.1 rfl (Nat.le_of_ble_eq_true rfl) d_X6_findPair_86 (fun w_13 H locs hw_12 hP hD hS => ?_)
  subst hw_12
  have hP : va_P D vwCl [(h, .inr (4, [.ref w, .ref y, .ref a, .ref u, .ref v, .int 1, .int 0, .int 1, .int 1, .int 2, .int 0]))] H := hP
  have hD : va_D A [(h, .inr (4, [.ref w, .ref y, .ref a, .ref u, .ref v, .int 1, .int 0, .int 1, .int 1, .int 2, .int 0]))] := hD
  refine lv_iinc (v := 2) (lv' := [(3, .int 2), (2, .int 0), (1, .int 1), (0, .ref h)]) hx hb d_X6_findPair_89 hl (k := 0) rfl (by decide +kernel) (by decide) rfl (fun ls hl => ?_)
  refine lv_goto (tgt := 47) hx hb d_X6_findPair_92 (by decide) ?_
  refine lv_iload_n hx hb d_X6_findPair_47 rfl (lv_at hl 0 rfl) ?_
  refine lv_sipush (v := 999) hx hb d_X6_findPair_48 (by decide) ?_
  refine lv_icmp_ge (tgt := 95) hx hb d_X6_findPair_51 (by decide) (fun c_14 => absurd c_14 (by decide +kernel)) (fun _ => ?_)
  refine lv_aload_n hx hb d_X6_findPair_54 rfl (lv_at hl 3 rfl) ?_
  refine va_get (D := D) (ci := 4) (v := .int 0) (C := RX6) (T := TX6) (N := 11) hx hb hg cu_iX6 hown hK.1 hP 0 rfl rfl 10 (by decide) (hg _ k_444) (fun _ h9 => h9) rfl d_X6_findPair_55 ?_
  refine lv_if_le (tgt := 95) hx hb d_X6_findPair_58 (by decide) (fun _ => ?_) (fun c_15 => absurd (by decide +kernel) c_15)
  exact hret _ _ _ _ [(h, .inr (4, [.ref w, .ref y, .ref a, .ref u, .ref v, .int 1, .int 0, .int 1, .int 1, .int 2, .int 0]))] _ _ (hP.sub (ws' := [(h, .inr (4, [.ref w, .ref y, .ref a, .ref u, .ref v, .int 1, .int 0, .int 1, .int 1, .int 2, .int 0]))]) [0] rfl) (hD.sub (ws' := [(h, .inr (4, [.ref w, .ref y, .ref a, .ref u, .ref v, .int 1, .int 0, .int 1, .int 1, .int 2, .int 0]))]) [0] (by decide) rfl) hS (Nat.le_of_ble_eq_true rfl) (Nat.le_of_ble_eq_true rfl) d_X6_findPair_95 rfl
def cu_spr (c1 : Int32) : Int32 := if c1 < 0 then (-2) else if 3 < c1 then (-2) else if c1 = 0 then 1 else if c1 = 1 then 2 else if c1 = 2 then 0 else 0
set_option maxHeartbeats 4000000 in
set_option maxRecDepth 100000 in
theorem c_X8_pair (l : Launch) (D : va_G) (cI cZ cQ : ClassId) (x tx nw sp ac cr sg sl fl : Nat) (w y a u : Nat) (c1 : Int32) : cu_W l D (cu_TY cI cZ cQ) yX8_pair cX8_pair 3 .int 4 86 6 14034 [.ref x, .int c1] [(x, .inr (6, [.ref tx, .ref nw, .ref sp, .ref ac, .ref cr, .ref sg, .ref sl, .ref fl, .null, .long 0])), (nw, .inr (2, [.ref w, .ref y, .ref a, .ref u, .int 0, .int 0, .int 1, .int 0]))] (fun r ww => (r = cu_spr c1) ∧ ww = []) := by
  refine cu_W.intro (by decide) (Nat.le_of_ble_eq_true rfl) ?_
  intro p e s m args below meth c Q ls A S hret hP hD hS hA hK hl
  obtain ⟨hx, hb, hml, hown, hg⟩ := S
  have hown : s.vm.findClass RX8 = some m.cls := hown
  have hl : lv_has ls 3 [(0, .ref x), (1, .int c1)] := hl
  refine lv_iload_n hx hb d_X8_pair_0 rfl (lv_at hl 1 rfl) ?_
  refine lv_if_lt (tgt := 9) hx hb d_X8_pair_1 (by decide) (fun c_1 => ?_) (fun c_1 => ?_)
  · skip
    refine lv_bipush (v := (-2)) hx hb d_X8_pair_9 (by decide) ?_
    exact hret _ _ _ _ [] _ _ _ (hP.sub (ws' := []) [] rfl) (hD.sub (ws' := []) [] (by decide) rfl) hS (Nat.le_of_ble_eq_true rfl) (Nat.le_of_ble_eq_true rfl) d_X8_pair_11 (rfl) ⟨by unfold cu_spr; rw [if_pos c_1], rfl⟩
  · skip
    refine lv_iload_n hx hb d_X8_pair_4 rfl (lv_at hl 1 rfl) ?_
    refine lv_iconst (v := 3) hx hb d_X8_pair_5 (by decide) ?_
    refine lv_icmp_le (tgt := 12) hx hb d_X8_pair_6 (by decide) (fun c_2 => ?_) (fun c_2 => ?_)
    · skip
      refine lv_aload_n hx hb d_X8_pair_12 rfl (lv_at hl 0 rfl) ?_
      refine cu_VQ (wc := [(x, .inr (6, [.ref tx, .ref nw, .ref sp, .ref ac, .ref cr, .ref sg, .ref sl, .ref fl, .null, .long 0])), (nw, .inr (2, [.ref w, .ref y, .ref a, .ref u, .int 0, .int 0, .int 1, .int 0]))]) (wr := []) (rest := []) [] ⟨hx, hb, hml, hown, hg⟩ (c_X8_surveyNow l D cI cZ cQ x tx nw sp ac cr sg sl fl w y a u) hd_X8_surveyNow k_424 k_421 k_423 k_7 k_43 ⟨Nat.le_of_ble_eq_true rfl, Nat.le_of_ble_eq_true rfl⟩ ⟨Nat.le_of_ble_eq_true rfl, Nat.le_of_ble_eq_true rfl⟩ hP hD hS hA hK [0, 1] [] rfl rfl (by decide) (by decide) (by decide) 0 rfl rfl rfl hl.1 rfl (Nat.le_of_ble_eq_true rfl) d_X8_pair_13 (fun r_3 w_5 H locs hw_4 hP hD hS => ?_)
      obtain ⟨q0_6, v1_7, v2_8, v3_9, v4_10, v5_11, hr_12⟩ := hw_4
      obtain ⟨hqa, hqb⟩ := Prod.mk.inj hr_12
      have hqa := hqa.symm
      subst hqa
      subst hqb
      have hP : va_P D vwCl [(x, .inr (6, [.ref tx, .ref nw, .ref sp, .ref ac, .ref cr, .ref sg, .ref sl, .ref fl, .ref q0_6, .long 0])), (nw, .inr (2, [.ref w, .ref y, .ref a, .ref u, .int 0, .int 0, .int 1, .int 0])), (q0_6, .inr (4, [.ref v1_7, .ref v2_8, .ref v3_9, .ref v4_10, .ref v5_11, .int 1, .int 0, .int 0, .int 0, .int 0, .int 0])), (v1_7, .inl (cI, 12, .inl (fun _ => 0))), (v2_8, .inl (cI, 12, .inl (fun _ => 0))), (v3_9, .inl (cI, 12000, .inl (fun _ => 0))), (v4_10, .inl (cI, 1000, .inl (fun _ => 0))), (v5_11, .inl (cI, 999, .inl (fun _ => 0)))] H := hP
      have hD : va_D A [(x, .inr (6, [.ref tx, .ref nw, .ref sp, .ref ac, .ref cr, .ref sg, .ref sl, .ref fl, .ref q0_6, .long 0])), (nw, .inr (2, [.ref w, .ref y, .ref a, .ref u, .int 0, .int 0, .int 1, .int 0])), (q0_6, .inr (4, [.ref v1_7, .ref v2_8, .ref v3_9, .ref v4_10, .ref v5_11, .int 1, .int 0, .int 0, .int 0, .int 0, .int 0])), (v1_7, .inl (cI, 12, .inl (fun _ => 0))), (v2_8, .inl (cI, 12, .inl (fun _ => 0))), (v3_9, .inl (cI, 12000, .inl (fun _ => 0))), (v4_10, .inl (cI, 1000, .inl (fun _ => 0))), (v5_11, .inl (cI, 999, .inl (fun _ => 0)))] := hD
      refine W.widen (k := 6) (n := 14034) (Nat.le_of_ble_eq_true rfl) (Nat.le_of_ble_eq_true rfl) ?_
      refine lv_astore_n (lv' := [(2, .ref q0_6), (0, .ref x), (1, .int c1)]) hx hb d_X8_pair_16 rfl hl (by decide) rfl (fun ls hl => ?_)
      refine lv_aload_n hx hb d_X8_pair_17 rfl (lv_at hl 0 rfl) ?_
      refine cu_VV (wc := [(q0_6, .inr (4, [.ref v1_7, .ref v2_8, .ref v3_9, .ref v4_10, .ref v5_11, .int 1, .int 0, .int 0, .int 0, .int 0, .int 0])), (v1_7, .inl (cI, 12, .inl (fun _ => 0))), (v4_10, .inl (cI, 1000, .inl (fun _ => 0)))]) (wr := [(x, .inr (6, [.ref tx, .ref nw, .ref sp, .ref ac, .ref cr, .ref sg, .ref sl, .ref fl, .ref q0_6, .long 0])), (nw, .inr (2, [.ref w, .ref y, .ref a, .ref u, .int 0, .int 0, .int 1, .int 0])), (v2_8, .inl (cI, 12, .inl (fun _ => 0))), (v3_9, .inl (cI, 12000, .inl (fun _ => 0))), (v5_11, .inl (cI, 999, .inl (fun _ => 0)))]) (rest := []) [] ⟨hx, hb, hml, hown, hg⟩ (c_X6_findPair l D cI cZ cQ q0_6 v1_7 v2_8 v3_9 v4_10 v5_11) hd_X6_findPair k_510 k_507 k_508 k_509 k_53 ⟨Nat.le_of_ble_eq_true rfl, Nat.le_of_ble_eq_true rfl⟩ ⟨Nat.le_of_ble_eq_true rfl, Nat.le_of_ble_eq_true rfl⟩ hP hD hS hA hK [2, 3, 6] [0, 1, 4, 5, 7] rfl rfl (by decide) (by decide) (by decide) 0 rfl rfl rfl hl.1 rfl (Nat.le_of_ble_eq_true rfl) d_X8_pair_18 (fun w_15 H locs hw_14 hP hD hS => ?_)
      subst hw_14
      have hP : va_P D vwCl [(x, .inr (6, [.ref tx, .ref nw, .ref sp, .ref ac, .ref cr, .ref sg, .ref sl, .ref fl, .ref q0_6, .long 0])), (nw, .inr (2, [.ref w, .ref y, .ref a, .ref u, .int 0, .int 0, .int 1, .int 0])), (v2_8, .inl (cI, 12, .inl (fun _ => 0))), (v3_9, .inl (cI, 12000, .inl (fun _ => 0))), (v5_11, .inl (cI, 999, .inl (fun _ => 0))), (q0_6, .inr (4, [.ref v1_7, .ref v2_8, .ref v3_9, .ref v4_10, .ref v5_11, .int 1, .int 0, .int 1, .int 1, .int 2, .int 0]))] H := hP
      have hD : va_D A [(x, .inr (6, [.ref tx, .ref nw, .ref sp, .ref ac, .ref cr, .ref sg, .ref sl, .ref fl, .ref q0_6, .long 0])), (nw, .inr (2, [.ref w, .ref y, .ref a, .ref u, .int 0, .int 0, .int 1, .int 0])), (v2_8, .inl (cI, 12, .inl (fun _ => 0))), (v3_9, .inl (cI, 12000, .inl (fun _ => 0))), (v5_11, .inl (cI, 999, .inl (fun _ => 0))), (q0_6, .inr (4, [.ref v1_7, .ref v2_8, .ref v3_9, .ref v4_10, .ref v5_11, .int 1, .int 0, .int 1, .int 1, .int 2, .int 0]))] := hD
      refine lv_iload_n hx hb d_X8_pair_21 rfl (lv_at hl 2 rfl) ?_
      by_cases hk_16 : c1 = 0
      · skip
        refine cu_topi (y := 0) hk_16 ?_
        refine lv_tableIn (off := 26) (tgt := 48) hx hb d_X8_pair_22 (by decide) (by decide) (by decide +kernel) (by decide) ?_
        refine lv_aload_n hx hb d_X8_pair_48 rfl (lv_at hl 0 rfl) ?_
        refine va_get (D := D) (ci := 4) (v := .int 1) (C := RX6) (T := TX6) (N := 11) hx hb hg cu_iX6 hown hK.1 hP 5 rfl rfl 8 (by decide) (hg _ k_441) (fun _ h9 => h9) rfl d_X8_pair_49 ?_
        exact hret _ _ _ _ [] _ _ _ (hP.sub (ws' := []) [] rfl) (hD.sub (ws' := []) [] (by decide) rfl) hS (Nat.le_of_ble_eq_true rfl) (Nat.le_of_ble_eq_true rfl) d_X8_pair_52 (rfl) ⟨by unfold cu_spr; rw [if_neg c_1, if_neg (Int32.not_lt.mpr c_2), if_pos hk_16], rfl⟩
      · skip
        by_cases hk_17 : c1 = 1
        · skip
          refine cu_topi (y := 1) hk_17 ?_
          refine lv_tableIn (off := 31) (tgt := 53) hx hb d_X8_pair_22 (by decide) (by decide) (by decide +kernel) (by decide) ?_
          refine lv_aload_n hx hb d_X8_pair_53 rfl (lv_at hl 0 rfl) ?_
          refine va_get (D := D) (ci := 4) (v := .int 2) (C := RX6) (T := TX6) (N := 11) hx hb hg cu_iX6 hown hK.1 hP 5 rfl rfl 9 (by decide) (hg _ k_443) (fun _ h9 => h9) rfl d_X8_pair_54 ?_
          exact hret _ _ _ _ [] _ _ _ (hP.sub (ws' := []) [] rfl) (hD.sub (ws' := []) [] (by decide) rfl) hS (Nat.le_of_ble_eq_true rfl) (Nat.le_of_ble_eq_true rfl) d_X8_pair_57 (rfl) ⟨by unfold cu_spr; rw [if_neg c_1, if_neg (Int32.not_lt.mpr c_2), if_neg hk_16, if_pos hk_17], rfl⟩
        · skip
          by_cases hk_18 : c1 = 2
          · skip
            refine cu_topi (y := 2) hk_18 ?_
            refine lv_tableIn (off := 36) (tgt := 58) hx hb d_X8_pair_22 (by decide) (by decide) (by decide +kernel) (by decide) ?_
            refine lv_aload_n hx hb d_X8_pair_58 rfl (lv_at hl 1 rfl) ?_
            refine va_get (D := D) (ci := 6) (v := .ref nw) (C := RX8) (T := TX8) (N := 10) hx hb hg cu_iX8 hown hK.1 hP 0 rfl rfl 1 (by decide) (hg _ k_180) (fun _ h9 => h9) rfl d_X8_pair_59 ?_
            refine lv_aload_n hx hb d_X8_pair_62 rfl (lv_at hl 0 rfl) ?_
            refine va_get (D := D) (ci := 4) (v := .int 1) (C := RX6) (T := TX6) (N := 11) hx hb hg cu_iX6 hown hK.1 hP 5 rfl rfl 8 (by decide) (hg _ k_441) (fun _ h9 => h9) rfl d_X8_pair_63 ?_
            refine cu_VR (wc := [(nw, .inr (2, [.ref w, .ref y, .ref a, .ref u, .int 0, .int 0, .int 1, .int 0]))]) (rest := []) [.int 1] ⟨hx, hb, hml, hown, hg⟩ (c_X3_explainedBy l D cI cZ cQ nw w y a u 1 0 1) hd_X3_explainedBy k_420 k_417 k_418 k_419 k_45 ⟨Nat.le_of_ble_eq_true rfl, Nat.le_of_ble_eq_true rfl⟩ ⟨Nat.le_of_ble_eq_true rfl, Nat.le_of_ble_eq_true rfl⟩ hP hK [1] rfl 0 rfl rfl rfl hl.1 rfl (Nat.le_of_ble_eq_true rfl) d_X8_pair_66 (fun r_19 hr_20 => ?_)
            subst hr_20
            refine lv_aload_n hx hb d_X8_pair_69 rfl (lv_at hl 1 rfl) ?_
            refine va_get (D := D) (ci := 6) (v := .ref nw) (C := RX8) (T := TX8) (N := 10) hx hb hg cu_iX8 hown hK.1 hP 0 rfl rfl 1 (by decide) (hg _ k_180) (fun _ h9 => h9) rfl d_X8_pair_70 ?_
            refine lv_aload_n hx hb d_X8_pair_73 rfl (lv_at hl 0 rfl) ?_
            refine va_get (D := D) (ci := 4) (v := .int 2) (C := RX6) (T := TX6) (N := 11) hx hb hg cu_iX6 hown hK.1 hP 5 rfl rfl 9 (by decide) (hg _ k_443) (fun _ h9 => h9) rfl d_X8_pair_74 ?_
            refine cu_VR (wc := [(nw, .inr (2, [.ref w, .ref y, .ref a, .ref u, .int 0, .int 0, .int 1, .int 0]))]) (rest := [.int 0]) [.int 2] ⟨hx, hb, hml, hown, hg⟩ (c_X3_explainedBy l D cI cZ cQ nw w y a u 1 0 2) hd_X3_explainedBy k_420 k_417 k_418 k_419 k_45 ⟨Nat.le_of_ble_eq_true rfl, Nat.le_of_ble_eq_true rfl⟩ ⟨Nat.le_of_ble_eq_true rfl, Nat.le_of_ble_eq_true rfl⟩ hP hK [1] rfl 0 rfl rfl rfl hl.1 rfl (Nat.le_of_ble_eq_true rfl) d_X8_pair_77 (fun r_21 hr_22 => ?_)
            subst hr_22
            refine lv_ior hx hb d_X8_pair_80 ?_
            refine cu_topi (y := 0) (by decide +kernel) ?_
            exact hret _ _ _ _ [] _ _ _ (hP.sub (ws' := []) [] rfl) (hD.sub (ws' := []) [] (by decide) rfl) hS (Nat.le_of_ble_eq_true rfl) (Nat.le_of_ble_eq_true rfl) d_X8_pair_81 (rfl) ⟨by unfold cu_spr; rw [if_neg c_1, if_neg (Int32.not_lt.mpr c_2), if_neg hk_16, if_neg hk_17, if_pos hk_18], rfl⟩
          · skip
            refine lv_tableOut (tgt := 82) hx hb d_X8_pair_22 (cu_out3 hk_16 hk_17 hk_18) (by decide) ?_
            refine lv_aload_n hx hb d_X8_pair_82 rfl (lv_at hl 0 rfl) ?_
            refine va_get (D := D) (ci := 4) (v := .int 0) (C := RX6) (T := TX6) (N := 11) hx hb hg cu_iX6 hown hK.1 hP 5 rfl rfl 10 (by decide) (hg _ k_445) (fun _ h9 => h9) rfl d_X8_pair_83 ?_
            refine lv_sipush (v := 4096) hx hb d_X8_pair_86 (by decide) ?_
            refine lv_irem hx hb d_X8_pair_89 (by decide) ?_
            refine cu_topi (y := 0) (by decide +kernel) ?_
            exact hret _ _ _ _ [] _ _ _ (hP.sub (ws' := []) [] rfl) (hD.sub (ws' := []) [] (by decide) rfl) hS (Nat.le_of_ble_eq_true rfl) (Nat.le_of_ble_eq_true rfl) d_X8_pair_90 (rfl) ⟨by unfold cu_spr; rw [if_neg c_1, if_neg (Int32.not_lt.mpr c_2), if_neg hk_16, if_neg hk_17, if_neg hk_18], rfl⟩
    · skip
      refine lv_bipush (v := (-2)) hx hb d_X8_pair_9 (by decide) ?_
      exact hret _ _ _ _ [] _ _ _ (hP.sub (ws' := []) [] rfl) (hD.sub (ws' := []) [] (by decide) rfl) hS (Nat.le_of_ble_eq_true rfl) (Nat.le_of_ble_eq_true rfl) d_X8_pair_11 (rfl) ⟨by unfold cu_spr; rw [if_neg c_1, if_pos (Int32.not_le.mp c_2)], rfl⟩
set_option maxHeartbeats 4000000 in
set_option maxRecDepth 100000 in
theorem c_X4_agreeWith (l : Launch) (D : va_G) (cI cZ cQ : ClassId) (h g1 g2 o : Nat) (c1 : Int32) : cu_R l D (cu_TY cI cZ cQ) yX4_agreeWith cX4_agreeWith 4 .boolean 0 0 [.ref h, .ref o, .int c1] [(h, .inr (3, [.ref g1, .ref g2, .int 0]))] (fun r => r = 1) := by
  refine cu_R.intro (by decide) (Nat.le_of_ble_eq_true rfl) ?_
  intro p e s m args below meth c Q ls S hret hP hK hl
  obtain ⟨hx, hb, hml, hown, hg⟩ := S
  have hown : s.vm.findClass RX4 = some m.cls := hown
  have hl : lv_has ls 4 [(0, .ref h), (1, .ref o), (2, .int c1)] := hl
  refine lv_iconst (v := 0) hx hb d_X4_agreeWith_0 (by decide) ?_
  refine lv_istore_n (lv' := [(3, .int 0), (0, .ref h), (1, .ref o), (2, .int c1)]) hx hb d_X4_agreeWith_1 rfl hl (by decide) rfl (fun ls hl => ?_)
  refine lv_iload_n hx hb d_X4_agreeWith_2 rfl (lv_at hl 0 rfl) ?_
  refine lv_aload_n hx hb d_X4_agreeWith_3 rfl (lv_at hl 1 rfl) ?_
  refine va_get (D := D) (ci := 3) (v := .int 0) (C := RX4) (T := TX4) (N := 3) hx hb hg cu_iX4 hown hK.1 hP 0 rfl rfl 2 (by decide) (hg _ k_168) (fun _ h9 => h9) rfl d_X4_agreeWith_4 ?_
  refine lv_icmp_ge (tgt := 48) hx hb d_X4_agreeWith_7 (by decide) (fun _ => ?_) (fun c_1 => absurd (by decide +kernel) c_1)
  refine lv_iconst (v := 1) hx hb d_X4_agreeWith_48 (by decide) ?_
  exact hret _ _ _ d_X4_agreeWith_49 (by decide +kernel) (rfl)
def cu_swh (c1 : Int32) : Int32 := if c1 < 0 then (-2) else if 2 < c1 then (-2) else if c1 = 0 then 999 else if c1 = 1 then 1 else 999
set_option maxHeartbeats 4000000 in
set_option maxRecDepth 100000 in
theorem c_X8_which (l : Launch) (D : va_G) (cI cZ cQ : ClassId) (x tx nw sp ac cr sg sl fl : Nat) (g1 g2 : Nat) (c1 : Int32) : cu_R l D (cu_TY cI cZ cQ) yX8_which cX8_which 6 .int 1 23 [.ref x, .int c1] [(x, .inr (6, [.ref tx, .ref nw, .ref sp, .ref ac, .ref cr, .ref sg, .ref sl, .ref fl, .null, .long 0])), (sg, .inr (3, [.ref g1, .ref g2, .int 0]))] (fun r => r = cu_swh c1) := by
  refine cu_R.intro (by decide) (Nat.le_of_ble_eq_true rfl) ?_
  intro p e s m args below meth c Q ls S hret hP hK hl
  obtain ⟨hx, hb, hml, hown, hg⟩ := S
  have hown : s.vm.findClass RX8 = some m.cls := hown
  have hl : lv_has ls 6 [(0, .ref x), (1, .int c1)] := hl
  refine lv_iload_n hx hb d_X8_which_0 rfl (lv_at hl 1 rfl) ?_
  refine lv_if_lt (tgt := 9) hx hb d_X8_which_1 (by decide) (fun c_1 => ?_) (fun c_1 => ?_)
  · skip
    refine lv_bipush (v := (-2)) hx hb d_X8_which_9 (by decide) ?_
    exact hret _ _ _ d_X8_which_11 (rfl) (by unfold cu_swh; rw [if_pos c_1])
  · skip
    refine lv_iload_n hx hb d_X8_which_4 rfl (lv_at hl 1 rfl) ?_
    refine lv_iconst (v := 2) hx hb d_X8_which_5 (by decide) ?_
    refine lv_icmp_le (tgt := 12) hx hb d_X8_which_6 (by decide) (fun c_2 => ?_) (fun c_2 => ?_)
    · skip
      refine lv_iconst (v := 0) hx hb d_X8_which_12 (by decide) ?_
      refine lv_istore_n (lv' := [(2, .int 0), (0, .ref x), (1, .int c1)]) hx hb d_X8_which_13 rfl hl (by decide) rfl (fun ls hl => ?_)
      refine lv_bipush (v := (-9)) hx hb d_X8_which_14 (by decide) ?_
      refine lv_istore_n (lv' := [(3, .int (-9)), (2, .int 0), (0, .ref x), (1, .int c1)]) hx hb d_X8_which_16 rfl hl (by decide) rfl (fun ls hl => ?_)
      refine lv_bipush (v := (-9)) hx hb d_X8_which_17 (by decide) ?_
      refine lv_istore (lv' := [(4, .int (-9)), (3, .int (-9)), (2, .int 0), (0, .ref x), (1, .int c1)]) hx hb d_X8_which_19 hl (by decide) rfl (fun ls hl => ?_)
      refine lv_iconst (v := 1) hx hb d_X8_which_21 (by decide) ?_
      refine lv_istore (lv' := [(5, .int 1), (4, .int (-9)), (3, .int (-9)), (2, .int 0), (0, .ref x), (1, .int c1)]) hx hb d_X8_which_22 hl (by decide) rfl (fun ls hl => ?_)
      refine lv_iload hx hb d_X8_which_24 (lv_at hl 0 rfl) ?_
      refine lv_sipush (v := 999) hx hb d_X8_which_26 (by decide) ?_
      refine lv_icmp_gt (tgt := 74) hx hb d_X8_which_29 (by decide) (fun c_3 => absurd c_3 (by decide +kernel)) (fun _ => ?_)
      refine lv_aload_n hx hb d_X8_which_32 rfl (lv_at hl 4 rfl) ?_
      refine va_get (D := D) (ci := 6) (v := .ref sg) (C := RX8) (T := TX8) (N := 10) hx hb hg cu_iX8 hown hK.1 hP 0 rfl rfl 5 (by decide) (hg _ k_184) (fun _ h9 => h9) rfl d_X8_which_33 ?_
      refine lv_aload_n hx hb d_X8_which_36 rfl (lv_at hl 4 rfl) ?_
      refine va_get (D := D) (ci := 6) (v := .ref nw) (C := RX8) (T := TX8) (N := 10) hx hb hg cu_iX8 hown hK.1 hP 0 rfl rfl 1 (by decide) (hg _ k_180) (fun _ h9 => h9) rfl d_X8_which_37 ?_
      refine lv_iload hx hb d_X8_which_40 (lv_at hl 0 rfl) ?_
      refine cu_VR (wc := [(sg, .inr (3, [.ref g1, .ref g2, .int 0]))]) (rest := []) [.ref nw, .int 1] ⟨hx, hb, hml, hown, hg⟩ (c_X4_agreeWith l D cI cZ cQ sg g1 g2 nw 1) hd_X4_agreeWith k_587 k_584 k_585 k_586 k_48 ⟨Nat.le_of_ble_eq_true rfl, Nat.le_of_ble_eq_true rfl⟩ ⟨Nat.le_of_ble_eq_true rfl, Nat.le_of_ble_eq_true rfl⟩ hP hK [1] rfl 0 rfl rfl rfl hl.1 rfl (Nat.le_of_ble_eq_true rfl) d_X8_which_42 (fun r_4 hr_5 => ?_)
      subst hr_5
      refine lv_if_eq (tgt := 68) hx hb d_X8_which_45 (by decide) (fun c_6 => absurd c_6 (by decide +kernel)) (fun _ => ?_)
      refine lv_iinc (v := 1) (lv' := [(2, .int 1), (5, .int 1), (4, .int (-9)), (3, .int (-9)), (0, .ref x), (1, .int c1)]) hx hb d_X8_which_48 hl (k := 3) rfl (by decide +kernel) (by decide) rfl (fun ls hl => ?_)
      refine lv_iload_n hx hb d_X8_which_51 rfl (lv_at hl 3 rfl) ?_
      refine lv_bipush (v := (-9)) hx hb d_X8_which_52 (by decide) ?_
      refine lv_icmp_ne (tgt := 62) hx hb d_X8_which_54 (by decide) (fun c_7 => absurd (by decide +kernel) c_7) (fun _ => ?_)
      refine lv_iload hx hb d_X8_which_57 (lv_at hl 1 rfl) ?_
      refine lv_goto (tgt := 63) hx hb d_X8_which_59 (by decide) ?_
      refine lv_istore_n (lv' := [(3, .int 1), (2, .int 1), (5, .int 1), (4, .int (-9)), (0, .ref x), (1, .int c1)]) hx hb d_X8_which_63 rfl hl (by decide) rfl (fun ls hl => ?_)
      refine lv_iload hx hb d_X8_which_64 (lv_at hl 2 rfl) ?_
      refine lv_istore (lv' := [(4, .int 1), (3, .int 1), (2, .int 1), (5, .int 1), (0, .ref x), (1, .int c1)]) hx hb d_X8_which_66 hl (by decide) rfl (fun ls hl => ?_)
      refine lv_iinc (v := 2) (lv' := [(5, .int 2), (4, .int 1), (3, .int 1), (2, .int 1), (0, .ref x), (1, .int c1)]) hx hb d_X8_which_68 hl (k := 3) rfl (by decide +kernel) (by decide) rfl (fun ls hl => ?_)
      refine lv_goto (tgt := 24) hx hb d_X8_which_71 (by decide) ?_
      have key_8 : ∀ (n_10 j_9 : Nat) (hj_12 : j_9 + n_10 = 1000)  (hi_13 : 2 ≤ j_9) (ls : Array Slot) (hl : lv_has ls 6 [(5, .int (nI j_9)), (4, .int (nI (j_9 - 1))), (3, .int 1), (2, .int (nI (j_9 - 1))), (0, .ref x), (1, .int c1)]), W p l e (cu_rm 1 23 0 0) s m args below meth c s.heap [] 0 0 Q (F0 m 24 ls []) := by
        intro n_10
        induction n_10 with
        | zero =>
          intro j_9 hj_12  hi_13 ls hl
          obtain rfl : 1000 = j_9 := by omega
          have hl : lv_has ls 6 [(5, .int 1000), (4, .int 999), (3, .int 1), (2, .int 999), (0, .ref x), (1, .int c1)] := hl
          refine lv_iload hx hb d_X8_which_24 (lv_at hl 0 rfl) ?_
          refine lv_sipush (v := 999) hx hb d_X8_which_26 (by decide) ?_
          refine lv_icmp_gt (tgt := 74) hx hb d_X8_which_29 (by decide) (fun _ => ?_) (fun c_14 => absurd (by decide +kernel) c_14)
          refine lv_iload_n hx hb d_X8_which_74 rfl (lv_at hl 5 rfl) ?_
          refine lv_if_ne (tgt := 82) hx hb d_X8_which_75 (by decide) (fun c_15 => ?_) (fun c_15 => ?_)
          · skip
            refine lv_iload_n hx hb d_X8_which_82 rfl (lv_at hl 5 rfl) ?_
            refine lv_iconst (v := 1) hx hb d_X8_which_83 (by decide) ?_
            refine lv_icmp_ne (tgt := 91) hx hb d_X8_which_84 (by decide) (fun c_16 => ?_) (fun c_16 => ?_)
            · skip
              refine lv_iload hx hb d_X8_which_91 (lv_at hl 1 rfl) ?_
              exact hret _ _ _ d_X8_which_93 (rfl) (by unfold cu_swh; rw [if_neg c_1, if_neg (Int32.not_lt.mpr c_2), if_neg c_15, if_neg c_16])
            · skip
              refine lv_iload_n hx hb d_X8_which_87 rfl (lv_at hl 2 rfl) ?_
              refine lv_goto (tgt := 93) hx hb d_X8_which_88 (by decide) ?_
              exact hret _ _ _ d_X8_which_93 (rfl) (by unfold cu_swh; rw [if_neg c_1, if_neg (Int32.not_lt.mpr c_2), if_neg c_15, if_pos c_16])
          · skip
            refine lv_iload_n hx hb d_X8_which_78 rfl (lv_at hl 3 rfl) ?_
            refine lv_goto (tgt := 93) hx hb d_X8_which_79 (by decide) ?_
            exact hret _ _ _ d_X8_which_93 (rfl) (by unfold cu_swh; rw [if_neg c_1, if_neg (Int32.not_lt.mpr c_2), if_pos c_15])
        | succ n_10 ih_11 =>
          intro j_9 hj_12  hi_13 ls hl
          refine lv_iload hx hb d_X8_which_24 (lv_at hl 0 rfl) ?_
          refine lv_sipush (v := 999) hx hb d_X8_which_26 (by decide) ?_
          refine lv_icmp_gt (tgt := 74) hx hb d_X8_which_29 (by decide) (fun c_17 => absurd c_17 (mt (nI_ltI (a := 999) (b := j_9) (by omega) (by omega)).mp (by omega))) (fun _ => ?_)
          refine lv_aload_n hx hb d_X8_which_32 rfl (lv_at hl 4 rfl) ?_
          refine va_get (D := D) (ci := 6) (v := .ref sg) (C := RX8) (T := TX8) (N := 10) hx hb hg cu_iX8 hown hK.1 hP 0 rfl rfl 5 (by decide) (hg _ k_184) (fun _ h9 => h9) rfl d_X8_which_33 ?_
          refine lv_aload_n hx hb d_X8_which_36 rfl (lv_at hl 4 rfl) ?_
          refine va_get (D := D) (ci := 6) (v := .ref nw) (C := RX8) (T := TX8) (N := 10) hx hb hg cu_iX8 hown hK.1 hP 0 rfl rfl 1 (by decide) (hg _ k_180) (fun _ h9 => h9) rfl d_X8_which_37 ?_
          refine lv_iload hx hb d_X8_which_40 (lv_at hl 0 rfl) ?_
          refine cu_VR (wc := [(sg, .inr (3, [.ref g1, .ref g2, .int 0]))]) (rest := []) [.ref nw, .int (nI j_9)] ⟨hx, hb, hml, hown, hg⟩ (c_X4_agreeWith l D cI cZ cQ sg g1 g2 nw (nI j_9)) hd_X4_agreeWith k_587 k_584 k_585 k_586 k_48 ⟨Nat.le_of_ble_eq_true rfl, Nat.le_of_ble_eq_true rfl⟩ ⟨Nat.le_of_ble_eq_true rfl, Nat.le_of_ble_eq_true rfl⟩ hP hK [1] rfl 0 rfl rfl rfl hl.1 rfl (Nat.le_of_ble_eq_true rfl) d_X8_which_42 (fun r_18 hr_19 => ?_)
          subst hr_19
          refine lv_if_eq (tgt := 68) hx hb d_X8_which_45 (by decide) (fun c_20 => absurd c_20 (by decide +kernel)) (fun _ => ?_)
          refine lv_iinc (v := nI ((j_9 - 1) + 1)) (lv' := [(2, .int (nI ((j_9 - 1) + 1))), (5, .int (nI j_9)), (4, .int (nI (j_9 - 1))), (3, .int 1), (0, .ref x), (1, .int c1)]) hx hb d_X8_which_48 hl (k := 3) rfl (nI_1 (j_9 - 1)) (by decide) rfl (fun ls hl => ?_)
          refine lv_iload_n hx hb d_X8_which_51 rfl (lv_at hl 3 rfl) ?_
          refine lv_bipush (v := (-9)) hx hb d_X8_which_52 (by decide) ?_
          refine lv_icmp_ne (tgt := 62) hx hb d_X8_which_54 (by decide) (fun _ => ?_) (fun c_21 => absurd c_21 (by decide +kernel))
          refine lv_iload_n hx hb d_X8_which_62 rfl (lv_at hl 3 rfl) ?_
          refine lv_istore_n (lv' := [(3, .int 1), (2, .int (nI ((j_9 - 1) + 1))), (5, .int (nI j_9)), (4, .int (nI (j_9 - 1))), (0, .ref x), (1, .int c1)]) hx hb d_X8_which_63 rfl hl (by decide) rfl (fun ls hl => ?_)
          refine lv_iload hx hb d_X8_which_64 (lv_at hl 2 rfl) ?_
          refine lv_istore (lv' := [(4, .int (nI j_9)), (3, .int 1), (2, .int (nI ((j_9 - 1) + 1))), (5, .int (nI j_9)), (0, .ref x), (1, .int c1)]) hx hb d_X8_which_66 hl (by decide) rfl (fun ls hl => ?_)
          refine lv_iinc (v := nI (j_9 + 1)) (lv' := [(5, .int (nI (j_9 + 1))), (4, .int (nI j_9)), (3, .int 1), (2, .int (nI ((j_9 - 1) + 1))), (0, .ref x), (1, .int c1)]) hx hb d_X8_which_68 hl (k := 3) rfl (nI_1 j_9) (by decide) rfl (fun ls hl => ?_)
          refine lv_goto (tgt := 24) hx hb d_X8_which_71 (by decide) ?_
          have he_22 : (nI j_9 : Int32) = nI ((j_9 + 1) - 1) := congrArg nI (by omega)
          rw [he_22] at hl
          have he_23 : (nI ((j_9 - 1) + 1) : Int32) = nI ((j_9 + 1) - 1) := congrArg nI (by omega)
          rw [he_23] at hl
          exact ih_11 (j_9 + 1) (by first | rfl | omega)  (by omega) _ (lv_sub hl [0, 1, 2, 3, 4, 5] rfl)
      exact key_8 998 2 (by first | rfl | omega)  (Nat.le_refl _) _ (lv_sub hl [0, 1, 2, 3, 4, 5] rfl)
    · skip
      refine lv_bipush (v := (-2)) hx hb d_X8_which_9 (by decide) ?_
      exact hret _ _ _ d_X8_which_11 (rfl) (by unfold cu_swh; rw [if_neg c_1, if_pos (Int32.not_le.mp c_2)])
set_option maxHeartbeats 4000000 in
set_option maxRecDepth 100000 in
theorem c_X6_placesBy (l : Launch) (D : va_G) (cI cZ cQ : ClassId) (h w y a u v : Nat) (k : Nat) (hy_0 : 1 ≤ k ∧ k ≤ 999) : cu_R l D (cu_TY cI cZ cQ) yX6_placesBy cX6_placesBy 5 .int 1 20 [.ref h, .int (nI k)] [(h, .inr (4, [.ref w, .ref y, .ref a, .ref u, .ref v, .int 1, .int 0, .int 0, .int 0, .int 0, .int 0])), (w, .inl (cI, 12, .inl (fun _ => 0)))] (fun r => r = 0) := by
  refine cu_R.intro (by decide) (Nat.le_of_ble_eq_true rfl) ?_
  intro p e s m args below meth c Q ls S hret hP hK hl
  obtain ⟨hx, hb, hml, hown, hg⟩ := S
  have hown : s.vm.findClass RX6 = some m.cls := hown
  have hl : lv_has ls 5 [(0, .ref h), (1, .int (nI k))] := hl
  refine lv_iload_n hx hb d_X6_placesBy_0 rfl (lv_at hl 1 rfl) ?_
  refine cu_SR (wc := []) (rest := []) [.int (nI k)] ⟨hx, hb, hml, hown, hg⟩ (c_X2_isUnitK l D cI cZ cQ k (⟨by omega, by omega⟩)) hd_X2_isUnit k_398 k_490 k_397 k_50 ⟨Nat.le_of_ble_eq_true rfl, Nat.le_of_ble_eq_true rfl⟩ ⟨Nat.le_of_ble_eq_true rfl, Nat.le_of_ble_eq_true rfl⟩ hP hK [] rfl rfl hl.1 rfl (Nat.le_of_ble_eq_true rfl) d_X6_placesBy_1 (fun r_1 hr_2 => ?_)
  subst hr_2
  refine lv_if_ne (tgt := 9) hx hb d_X6_placesBy_4 (by decide) (fun _ => ?_) (fun c_3 => absurd c_3 (by decide +kernel))
  refine lv_iconst (v := 0) hx hb d_X6_placesBy_9 (by decide) ?_
  refine lv_istore_n (lv' := [(2, .int 0), (0, .ref h), (1, .int (nI k))]) hx hb d_X6_placesBy_10 rfl hl (by decide) rfl (fun ls hl => ?_)
  refine lv_iconst (v := 0) hx hb d_X6_placesBy_11 (by decide) ?_
  refine lv_istore_n (lv' := [(3, .int 0), (2, .int 0), (0, .ref h), (1, .int (nI k))]) hx hb d_X6_placesBy_12 rfl hl (by decide) rfl (fun ls hl => ?_)
  refine lv_iconst (v := 0) hx hb d_X6_placesBy_13 (by decide) ?_
  refine lv_istore (lv' := [(4, .int 0), (3, .int 0), (2, .int 0), (0, .ref h), (1, .int (nI k))]) hx hb d_X6_placesBy_14 hl (by decide) rfl (fun ls hl => ?_)
  have key_4 : ∀ (n_6 j_5 : Nat) (hj_8 : j_5 + n_6 = 12)   (ls : Array Slot) (hl : lv_has ls 5 [(4, .int (nI j_5)), (3, .int 0), (2, .int 0), (0, .ref h), (1, .int (nI k))]), W p l e (cu_rm 1 20 0 0) s m args below meth c s.heap [] 0 0 Q (F0 m 16 ls []) := by
    intro n_6
    induction n_6 with
    | zero =>
      intro j_5 hj_8   ls hl
      obtain rfl : 12 = j_5 := by omega
      have hl : lv_has ls 5 [(4, .int 12), (3, .int 0), (2, .int 0), (0, .ref h), (1, .int (nI k))] := hl
      refine lv_iload hx hb d_X6_placesBy_16 (lv_at hl 0 rfl) ?_
      refine lv_bipush (v := 12) hx hb d_X6_placesBy_18 (by decide) ?_
      refine lv_icmp_ge (tgt := 66) hx hb d_X6_placesBy_20 (by decide) (fun _ => ?_) (fun c_9 => absurd (by decide +kernel) c_9)
      refine lv_iload_n hx hb d_X6_placesBy_66 rfl (lv_at hl 2 rfl) ?_
      exact hret _ _ _ d_X6_placesBy_67 (rfl) (rfl)
    | succ n_6 ih_7 =>
      intro j_5 hj_8   ls hl
      refine lv_iload hx hb d_X6_placesBy_16 (lv_at hl 0 rfl) ?_
      refine lv_bipush (v := 12) hx hb d_X6_placesBy_18 (by decide) ?_
      refine lv_icmp_ge (tgt := 66) hx hb d_X6_placesBy_20 (by decide) (fun c_10 => absurd c_10 (mt (nI_leI (a := 12) (b := j_5) (by omega) (by omega)).mp (by omega))) (fun _ => ?_)
      refine lv_aload_n hx hb d_X6_placesBy_23 rfl (lv_at hl 3 rfl) ?_
      refine va_get (D := D) (ci := 4) (v := .ref w) (C := RX6) (T := TX6) (N := 11) hx hb hg cu_iX6 hown hK.1 hP 0 rfl rfl 0 (by decide) (hg _ k_431) (fun _ h9 => h9) rfl d_X6_placesBy_24 ?_
      refine lv_iload hx hb d_X6_placesBy_27 (lv_at hl 0 rfl) ?_
      refine va_iald hx hb hK.1 hP 1 0 rfl rfl (vp_in_nI (by omega) (by decide)) d_X6_placesBy_29 ?_
      refine cu_topi (y := 0) rfl ?_
      refine lv_if_le (tgt := 60) hx hb d_X6_placesBy_30 (by decide) (fun _ => ?_) (fun c_11 => absurd (by decide +kernel) c_11)
      refine lv_iinc (v := nI (j_5 + 1)) (lv' := [(4, .int (nI (j_5 + 1))), (3, .int 0), (2, .int 0), (0, .ref h), (1, .int (nI k))]) hx hb d_X6_placesBy_60 hl (k := 0) rfl (nI_1 j_5) (by decide) rfl (fun ls hl => ?_)
      refine lv_goto (tgt := 16) hx hb d_X6_placesBy_63 (by decide) ?_
      exact ih_7 (j_5 + 1) (by first | rfl | omega)   _ (lv_sub hl [0, 1, 2, 3, 4] rfl)
  exact key_4 12 0 (by first | rfl | omega)   _ (lv_sub hl [0, 1, 2, 3, 4] rfl)
set_option maxHeartbeats 4000000 in
set_option maxRecDepth 100000 in
theorem c_X1_markSubsets (l : Launch) (D : va_G) (cI cZ cQ : ClassId) (c0 vs : Nat) (f : Nat → Int32) : cu_V l D (cu_TY cI cZ cQ) yX1_markSubsets cX1_markSubsets 3 0 0 0 0 [.ref c0] [(c0, .inr (1, [.ref vs, .int 1, .int 0])), (vs, .inl (cI, 256, .inl f))] (fun ww => ww = [(c0, .inr (1, [.ref vs, .int 1, .int 0])), (vs, .inl (cI, 256, .inl f))]) := by
  refine cu_V.intro (by decide) (Nat.le_of_ble_eq_true rfl) ?_
  intro p e s m args below meth c Q ls A S hin hret hP hD hS hA hK hl
  obtain ⟨hx, hb, hml, hown, hg⟩ := S
  have hown : s.vm.findClass RX1 = some m.cls := hown
  have hin : meth.name = "markSubsets" := hin
  have hl : lv_has ls 3 [(0, .ref c0)] := hl
  refine lv_iconst (v := 1) hx hb d_X1_markSubsets_0 (by decide) ?_
  refine lv_aload_n hx hb d_X1_markSubsets_1 rfl (lv_at hl 0 rfl) ?_
  refine va_get (D := D) (ci := 1) (v := .int 0) (C := RX1) (T := TX1) (N := 3) hx hb hg cu_iX1 hown hK.1 hP 0 rfl rfl 2 (by decide) (hg _ k_152) (fun _ h9 => h9) rfl d_X1_markSubsets_2 ?_
  refine lv_ishl hx hb d_X1_markSubsets_5 ?_
  refine cu_topi (y := 1) (by decide +kernel) ?_
  refine lv_iconst (v := 1) hx hb d_X1_markSubsets_6 (by decide) ?_
  refine lv_isub hx hb d_X1_markSubsets_7 ?_
  refine cu_topi (y := 0) (by decide +kernel) ?_
  refine lv_istore_n (lv' := [(1, .int 0), (0, .ref c0)]) hx hb d_X1_markSubsets_8 rfl hl (by decide) rfl (fun ls hl => ?_)
  refine lv_iload_n hx hb d_X1_markSubsets_9 rfl (lv_at hl 0 rfl) ?_
  refine lv_if_lt (tgt := 56) hx hb d_X1_markSubsets_10 (by decide) (fun c_1 => absurd c_1 (by decide +kernel)) (fun _ => ?_)
  refine lv_iconst (v := 0) hx hb d_X1_markSubsets_13 (by decide) ?_
  refine lv_istore_n (lv' := [(2, .int 0), (1, .int 0), (0, .ref c0)]) hx hb d_X1_markSubsets_14 rfl hl (by decide) rfl (fun ls hl => ?_)
  refine lv_iload_n hx hb d_X1_markSubsets_15 rfl (lv_at hl 0 rfl) ?_
  refine lv_aload_n hx hb d_X1_markSubsets_16 rfl (lv_at hl 2 rfl) ?_
  refine va_get (D := D) (ci := 1) (v := .int 0) (C := RX1) (T := TX1) (N := 3) hx hb hg cu_iX1 hown hK.1 hP 0 rfl rfl 2 (by decide) (hg _ k_152) (fun _ h9 => h9) rfl d_X1_markSubsets_17 ?_
  refine lv_icmp_ge (tgt := 50) hx hb d_X1_markSubsets_20 (by decide) (fun _ => ?_) (fun c_2 => absurd (by decide +kernel) c_2)
  refine lv_iinc (v := (-1)) (lv' := [(1, .int (-1)), (2, .int 0), (0, .ref c0)]) hx hb d_X1_markSubsets_50 hl (k := 1) rfl (by decide +kernel) (by decide) rfl (fun ls hl => ?_)
  refine lv_goto (tgt := 9) hx hb d_X1_markSubsets_53 (by decide) ?_
  refine lv_iload_n hx hb d_X1_markSubsets_9 rfl (lv_at hl 0 rfl) ?_
  refine lv_if_lt (tgt := 56) hx hb d_X1_markSubsets_10 (by decide) (fun _ => ?_) (fun c_3 => absurd (by decide +kernel) c_3)
  exact hret _ _ _ _ [(c0, .inr (1, [.ref vs, .int 1, .int 0])), (vs, .inl (cI, 256, .inl f))] _ _ (hP.sub (ws' := [(c0, .inr (1, [.ref vs, .int 1, .int 0])), (vs, .inl (cI, 256, .inl f))]) [0, 1] rfl) (hD.sub (ws' := [(c0, .inr (1, [.ref vs, .int 1, .int 0])), (vs, .inl (cI, 256, .inl f))]) [0, 1] (by decide) rfl) hS (Nat.le_of_ble_eq_true rfl) (Nat.le_of_ble_eq_true rfl) d_X1_markSubsets_56 rfl
set_option maxHeartbeats 4000000 in
set_option maxRecDepth 100000 in
theorem c_X1_fillValues (l : Launch) (D : va_G) (cI cZ cQ : ClassId) (c0 vs : Nat) (f : Nat → Int32) (hy_0 : f 0 = 1) : cu_V l D (cu_TY cI cZ cQ) yX1_fillValues cX1_fillValues 4 1 20 0 0 [.ref c0] [(c0, .inr (1, [.ref vs, .int 1, .int 0])), (vs, .inl (cI, 256, .inl f))] (fun ww => ∃ g : Nat → Int32, (g 0 = 0) ∧ ww = [(c0, .inr (1, [.ref vs, .int 1, .int 0])), (vs, .inl (cI, 256, .inl g))]) := by
  refine cu_V.intro (by decide) (Nat.le_of_ble_eq_true rfl) ?_
  intro p e s m args below meth c Q ls A S hin hret hP hD hS hA hK hl
  obtain ⟨hx, hb, hml, hown, hg⟩ := S
  have hown : s.vm.findClass RX1 = some m.cls := hown
  have hin : meth.name = "fillValues" := hin
  have hl : lv_has ls 4 [(0, .ref c0)] := hl
  refine lv_iconst (v := 0) hx hb d_X1_fillValues_0 (by decide) ?_
  refine lv_istore_n (lv' := [(1, .int 0), (0, .ref c0)]) hx hb d_X1_fillValues_1 rfl hl (by decide) rfl (fun ls hl => ?_)
  refine lv_iload_n hx hb d_X1_fillValues_2 rfl (lv_at hl 0 rfl) ?_
  refine lv_iconst (v := 1) hx hb d_X1_fillValues_3 (by decide) ?_
  refine lv_aload_n hx hb d_X1_fillValues_4 rfl (lv_at hl 1 rfl) ?_
  refine va_get (D := D) (ci := 1) (v := .int 0) (C := RX1) (T := TX1) (N := 3) hx hb hg cu_iX1 hown hK.1 hP 0 rfl rfl 2 (by decide) (hg _ k_152) (fun _ h9 => h9) rfl d_X1_fillValues_5 ?_
  refine lv_ishl hx hb d_X1_fillValues_8 ?_
  refine cu_topi (y := 1) (by decide +kernel) ?_
  refine lv_icmp_ge (tgt := 84) hx hb d_X1_fillValues_9 (by decide) (fun c_1 => absurd c_1 (by decide +kernel)) (fun _ => ?_)
  refine lv_aload_n hx hb d_X1_fillValues_12 rfl (lv_at hl 1 rfl) ?_
  refine va_get (D := D) (ci := 1) (v := .ref vs) (C := RX1) (T := TX1) (N := 3) hx hb hg cu_iX1 hown hK.1 hP 0 rfl rfl 0 (by decide) (hg _ k_150) (fun _ h9 => h9) rfl d_X1_fillValues_13 ?_
  refine lv_iload_n hx hb d_X1_fillValues_16 rfl (lv_at hl 0 rfl) ?_
  refine va_iald hx hb hK.1 hP 1 0 rfl rfl (vp_in_nI (n := 0) (N := 256) (Nat.le_of_ble_eq_true rfl) (by decide)) d_X1_fillValues_17 ?_
  refine cu_topi (y := 1) (hy_0) ?_
  refine lv_iconst (v := 1) hx hb d_X1_fillValues_18 (by decide) ?_
  refine lv_icmp_ne (tgt := 29) hx hb d_X1_fillValues_19 (by decide) (fun c_2 => absurd (by decide +kernel) c_2) (fun _ => ?_)
  refine lv_iload_n hx hb d_X1_fillValues_22 rfl (lv_at hl 0 rfl) ?_
  refine cu_SR (wc := []) (rest := []) [.int 0] ⟨hx, hb, hml, hown, hg⟩ (c_J6_bitCount l D cI cZ cQ ) hd_J6_bitCount_0f7a4 k_333 k_618 k_332 k_51 ⟨Nat.le_of_ble_eq_true rfl, Nat.le_of_ble_eq_true rfl⟩ ⟨Nat.le_of_ble_eq_true rfl, Nat.le_of_ble_eq_true rfl⟩ hP hK [] rfl rfl hl.1 rfl (Nat.le_of_ble_eq_true rfl) d_X1_fillValues_23 (fun r_3 hr_4 => ?_)
  subst hr_4
  refine lv_goto (tgt := 30) hx hb d_X1_fillValues_26 (by decide) ?_
  refine lv_istore_n (lv' := [(2, .int 0), (1, .int 0), (0, .ref c0)]) hx hb d_X1_fillValues_30 rfl hl (by decide) rfl (fun ls hl => ?_)
  refine lv_iconst (v := 0) hx hb d_X1_fillValues_31 (by decide) ?_
  refine lv_istore_n (lv' := [(3, .int 0), (2, .int 0), (1, .int 0), (0, .ref c0)]) hx hb d_X1_fillValues_32 rfl hl (by decide) rfl (fun ls hl => ?_)
  refine lv_iload_n hx hb d_X1_fillValues_33 rfl (lv_at hl 0 rfl) ?_
  refine lv_aload_n hx hb d_X1_fillValues_34 rfl (lv_at hl 3 rfl) ?_
  refine va_get (D := D) (ci := 1) (v := .int 0) (C := RX1) (T := TX1) (N := 3) hx hb hg cu_iX1 hown hK.1 hP 0 rfl rfl 2 (by decide) (hg _ k_152) (fun _ h9 => h9) rfl d_X1_fillValues_35 ?_
  refine lv_icmp_ge (tgt := 71) hx hb d_X1_fillValues_38 (by decide) (fun _ => ?_) (fun c_5 => absurd (by decide +kernel) c_5)
  refine lv_aload_n hx hb d_X1_fillValues_71 rfl (lv_at hl 3 rfl) ?_
  refine va_get (D := D) (ci := 1) (v := .ref vs) (C := RX1) (T := TX1) (N := 3) hx hb hg cu_iX1 hown hK.1 hP 0 rfl rfl 0 (by decide) (hg _ k_150) (fun _ h9 => h9) rfl d_X1_fillValues_72 ?_
  refine lv_iload_n hx hb d_X1_fillValues_75 rfl (lv_at hl 2 rfl) ?_
  refine lv_iload_n hx hb d_X1_fillValues_76 rfl (lv_at hl 1 rfl) ?_
  refine va_iast hx hb hK.1 hP hD hS 1 0 rfl rfl (vp_in_nI (n := 0) (N := 256) (Nat.le_of_ble_eq_true rfl) (by decide)) d_X1_fillValues_77 (fun H locs hP hD hS => ?_)
  have hP : va_P D vwCl [(c0, .inr (1, [.ref vs, .int 1, .int 0])), (vs, .inl (cI, 256, .inl (upd f 0 (0 : Int32))))] H := hP
  have hD : va_D A [(c0, .inr (1, [.ref vs, .int 1, .int 0])), (vs, .inl (cI, 256, .inl (upd f 0 (0 : Int32))))] := hD
  refine lv_iinc (v := 1) (lv' := [(1, .int 1), (3, .int 0), (2, .int 0), (0, .ref c0)]) hx hb d_X1_fillValues_78 hl (k := 2) rfl (by decide +kernel) (by decide) rfl (fun ls hl => ?_)
  refine lv_goto (tgt := 2) hx hb d_X1_fillValues_81 (by decide) ?_
  refine lv_iload_n hx hb d_X1_fillValues_2 rfl (lv_at hl 0 rfl) ?_
  refine lv_iconst (v := 1) hx hb d_X1_fillValues_3 (by decide) ?_
  refine lv_aload_n hx hb d_X1_fillValues_4 rfl (lv_at hl 3 rfl) ?_
  refine va_get (D := D) (ci := 1) (v := .int 0) (C := RX1) (T := TX1) (N := 3) hx hb hg cu_iX1 hown hK.1 hP 0 rfl rfl 2 (by decide) (hg _ k_152) (fun _ h9 => h9) rfl d_X1_fillValues_5 ?_
  refine lv_ishl hx hb d_X1_fillValues_8 ?_
  refine cu_topi (y := 1) (by decide +kernel) ?_
  refine lv_icmp_ge (tgt := 84) hx hb d_X1_fillValues_9 (by decide) (fun _ => ?_) (fun c_6 => absurd (by decide +kernel) c_6)
  exact hret _ _ _ _ [(c0, .inr (1, [.ref vs, .int 1, .int 0])), (vs, .inl (cI, 256, .inl (upd f 0 (0 : Int32))))] _ _ (hP.sub (ws' := [(c0, .inr (1, [.ref vs, .int 1, .int 0])), (vs, .inl (cI, 256, .inl (upd f 0 (0 : Int32))))]) [0, 1] rfl) (hD.sub (ws' := [(c0, .inr (1, [.ref vs, .int 1, .int 0])), (vs, .inl (cI, 256, .inl (upd f 0 (0 : Int32))))]) [0, 1] (by decide) rfl) hS (Nat.le_of_ble_eq_true rfl) (Nat.le_of_ble_eq_true rfl) d_X1_fillValues_84 ⟨(upd f 0 (0 : Int32)), rfl, rfl⟩
set_option maxHeartbeats 4000000 in
set_option maxRecDepth 100000 in
theorem c_X1_gather (l : Launch) (D : va_G) (cI cZ cQ : ClassId) (c0 vs : Nat) (h w y a u v : Nat) : cu_V l D (cu_TY cI cZ cQ) yX1_gather cX1_gather 4 2 44 0 0 [.ref c0, .ref h, .int 0] [(c0, .inr (1, [.ref vs, .int 0, .int 0])), (vs, .inl (cI, 256, .inl (fun _ => 0))), (h, .inr (4, [.ref w, .ref y, .ref a, .ref u, .ref v, .int 1, .int 0, .int 0, .int 0, .int 0, .int 0])), (w, .inl (cI, 12, .inl (fun _ => 0)))] (fun ww => ∃ g : Nat → Int32, (g 0 = 0) ∧ ww = [(c0, .inr (1, [.ref vs, .int 1, .int 0])), (vs, .inl (cI, 256, .inl g))]) := by
  refine cu_V.intro (by decide) (Nat.le_of_ble_eq_true rfl) ?_
  intro p e s m args below meth c Q ls A S hin hret hP hD hS hA hK hl
  obtain ⟨hx, hb, hml, hown, hg⟩ := S
  have hown : s.vm.findClass RX1 = some m.cls := hown
  have hin : meth.name = "gather" := hin
  have hl : lv_has ls 4 [(0, .ref c0), (1, .ref h), (2, .int 0)] := hl
  refine lv_aload_n hx hb d_X1_gather_0 rfl (lv_at hl 0 rfl) ?_
  refine va_get (D := D) (ci := 1) (v := .int 0) (C := RX1) (T := TX1) (N := 3) hx hb hg cu_iX1 hown hK.1 hP 0 rfl rfl 1 (by decide) (hg _ k_151) (fun _ h9 => h9) rfl d_X1_gather_1 ?_
  refine lv_aload_n hx hb d_X1_gather_4 rfl (lv_at hl 1 rfl) ?_
  refine va_get (D := D) (ci := 4) (v := .int 1) (C := RX6) (T := TX6) (N := 11) hx hb hg cu_iX6 hown hK.1 hP 2 rfl rfl 5 (by decide) (hg _ k_437) (fun _ h9 => h9) rfl d_X1_gather_5 ?_
  refine lv_icmp_eq (tgt := 17) hx hb d_X1_gather_8 (by decide) (fun c_1 => absurd c_1 (by decide +kernel)) (fun _ => ?_)
  refine lv_iload_n hx hb d_X1_gather_11 rfl (lv_at hl 2 rfl) ?_
  refine lv_bipush (v := 8) hx hb d_X1_gather_12 (by decide) ?_
  refine lv_icmp_le (tgt := 18) hx hb d_X1_gather_14 (by decide) (fun _ => ?_) (fun c_2 => absurd (by decide +kernel) c_2)
  refine lv_aload_n hx hb d_X1_gather_18 rfl (lv_at hl 0 rfl) ?_
  refine lv_aload_n hx hb d_X1_gather_19 rfl (lv_at hl 1 rfl) ?_
  refine va_get (D := D) (ci := 4) (v := .int 1) (C := RX6) (T := TX6) (N := 11) hx hb hg cu_iX6 hown hK.1 hP 2 rfl rfl 5 (by decide) (hg _ k_437) (fun _ h9 => h9) rfl d_X1_gather_20 ?_
  refine va_put (D := D) (ci := 1) (v := .int 1) (ty := .int) (C := RX1) (T := TX1) (N := 3) hx hb hg cu_iX1 tyX1 tyX1_ok nmX1 hown hK.1 hP hD hS 0 rfl rfl 1 (by decide) (hg _ k_151) (fun _ h9 => h9) rfl (by decide +kernel) rfl rfl (Nat.le_of_ble_eq_true rfl) d_X1_gather_23 (fun H locs hP hD hS => ?_)
  have hP : va_P D vwCl [(c0, .inr (1, [.ref vs, .int 1, .int 0])), (vs, .inl (cI, 256, .inl (fun _ => 0))), (h, .inr (4, [.ref w, .ref y, .ref a, .ref u, .ref v, .int 1, .int 0, .int 0, .int 0, .int 0, .int 0])), (w, .inl (cI, 12, .inl (fun _ => 0)))] H := hP
  have hD : va_D A [(c0, .inr (1, [.ref vs, .int 1, .int 0])), (vs, .inl (cI, 256, .inl (fun _ => 0))), (h, .inr (4, [.ref w, .ref y, .ref a, .ref u, .ref v, .int 1, .int 0, .int 0, .int 0, .int 0, .int 0])), (w, .inl (cI, 12, .inl (fun _ => 0)))] := hD
  refine lv_aload_n hx hb d_X1_gather_26 rfl (lv_at hl 0 rfl) ?_
  refine lv_iload_n hx hb d_X1_gather_27 rfl (lv_at hl 2 rfl) ?_
  refine va_put (D := D) (ci := 1) (v := .int 0) (ty := .int) (C := RX1) (T := TX1) (N := 3) hx hb hg cu_iX1 tyX1 tyX1_ok nmX1 hown hK.1 hP hD hS 0 rfl rfl 2 (by decide) (hg _ k_152) (fun _ h9 => h9) rfl (by decide +kernel) rfl rfl (Nat.le_of_ble_eq_true rfl) d_X1_gather_28 (fun H locs hP hD hS => ?_)
  have hP : va_P D vwCl [(c0, .inr (1, [.ref vs, .int 1, .int 0])), (vs, .inl (cI, 256, .inl (fun _ => 0))), (h, .inr (4, [.ref w, .ref y, .ref a, .ref u, .ref v, .int 1, .int 0, .int 0, .int 0, .int 0, .int 0])), (w, .inl (cI, 12, .inl (fun _ => 0)))] H := hP
  have hD : va_D A [(c0, .inr (1, [.ref vs, .int 1, .int 0])), (vs, .inl (cI, 256, .inl (fun _ => 0))), (h, .inr (4, [.ref w, .ref y, .ref a, .ref u, .ref v, .int 1, .int 0, .int 0, .int 0, .int 0, .int 0])), (w, .inl (cI, 12, .inl (fun _ => 0)))] := hD
  refine lv_iconst (v := 0) hx hb d_X1_gather_31 (by decide) ?_
  refine lv_istore_n (lv' := [(3, .int 0), (0, .ref c0), (1, .ref h), (2, .int 0)]) hx hb d_X1_gather_32 rfl hl (by decide) rfl (fun ls hl => ?_)
  have key_3 : ∀ (n_5 j_4 : Nat) (hj_7 : j_4 + n_5 = 256) (f : Nat → Int32)  (H : Heap) (locs : List Loc) (ls : Array Slot) (hP : va_P D vwCl [(c0, .inr (1, [.ref vs, .int 1, .int 0])), (vs, .inl (cI, 256, .inl f)), (h, .inr (4, [.ref w, .ref y, .ref a, .ref u, .ref v, .int 1, .int 0, .int 0, .int 0, .int 0, .int 0])), (w, .inl (cI, 12, .inl (fun _ => 0)))] H) (hD : va_D A [(c0, .inr (1, [.ref vs, .int 1, .int 0])), (vs, .inl (cI, 256, .inl f)), (h, .inr (4, [.ref w, .ref y, .ref a, .ref u, .ref v, .int 1, .int 0, .int 0, .int 0, .int 0, .int 0])), (w, .inl (cI, 12, .inl (fun _ => 0)))]) (hS : va_S A s.heap H locs) (hl : lv_has ls 4 [(3, .int (nI j_4)), (0, .ref c0), (1, .ref h), (2, .int 0)]), W p l e (cu_rm 2 44 0 0) s m args below meth c H locs 0 0 Q (F0 m 33 ls []) := by
    intro n_5
    induction n_5 with
    | zero =>
      intro j_4 hj_7 f  H locs ls hP hD hS hl
      obtain rfl : 256 = j_4 := by omega
      have hl : lv_has ls 4 [(3, .int 256), (0, .ref c0), (1, .ref h), (2, .int 0)] := hl
      have hP : va_P D vwCl [(c0, .inr (1, [.ref vs, .int 1, .int 0])), (vs, .inl (cI, 256, .inl f)), (h, .inr (4, [.ref w, .ref y, .ref a, .ref u, .ref v, .int 1, .int 0, .int 0, .int 0, .int 0, .int 0])), (w, .inl (cI, 12, .inl (fun _ => 0)))] H := hP
      have hD : va_D A [(c0, .inr (1, [.ref vs, .int 1, .int 0])), (vs, .inl (cI, 256, .inl f)), (h, .inr (4, [.ref w, .ref y, .ref a, .ref u, .ref v, .int 1, .int 0, .int 0, .int 0, .int 0, .int 0])), (w, .inl (cI, 12, .inl (fun _ => 0)))] := hD
      refine lv_iload_n hx hb d_X1_gather_33 rfl (lv_at hl 0 rfl) ?_
      refine lv_sipush (v := 256) hx hb d_X1_gather_34 (by decide) ?_
      refine lv_icmp_ge (tgt := 53) hx hb d_X1_gather_37 (by decide) (fun _ => ?_) (fun c_8 => absurd (by decide +kernel) c_8)
      refine lv_iconst (v := 1) hx hb d_X1_gather_53 (by decide) ?_
      refine lv_istore_n (lv' := [(3, .int 1), (0, .ref c0), (1, .ref h), (2, .int 0)]) hx hb d_X1_gather_54 rfl hl (by decide) rfl (fun ls hl => ?_)
      refine lv_iload_n hx hb d_X1_gather_55 rfl (lv_at hl 0 rfl) ?_
      refine lv_sipush (v := 999) hx hb d_X1_gather_56 (by decide) ?_
      refine lv_icmp_gt (tgt := 83) hx hb d_X1_gather_59 (by decide) (fun c_9 => absurd c_9 (by decide +kernel)) (fun _ => ?_)
      refine lv_aload_n hx hb d_X1_gather_62 rfl (lv_at hl 1 rfl) ?_
      refine va_get (D := D) (ci := 1) (v := .ref vs) (C := RX1) (T := TX1) (N := 3) hx hb hg cu_iX1 hown hK.1 hP 0 rfl rfl 0 (by decide) (hg _ k_150) (fun _ h9 => h9) rfl d_X1_gather_63 ?_
      refine lv_aload_n hx hb d_X1_gather_66 rfl (lv_at hl 2 rfl) ?_
      refine lv_iload_n hx hb d_X1_gather_67 rfl (lv_at hl 0 rfl) ?_
      refine cu_VR (wc := [(h, .inr (4, [.ref w, .ref y, .ref a, .ref u, .ref v, .int 1, .int 0, .int 0, .int 0, .int 0, .int 0])), (w, .inl (cI, 12, .inl (fun _ => 0)))]) (rest := [.ref vs]) [.int 1] ⟨hx, hb, hml, hown, hg⟩ (c_X6_placesBy l D cI cZ cQ h w y a u v 1 (⟨by omega, by omega⟩)) hd_X6_placesBy k_609 k_606 k_607 k_608 k_53 ⟨Nat.le_of_ble_eq_true rfl, Nat.le_of_ble_eq_true rfl⟩ ⟨Nat.le_of_ble_eq_true rfl, Nat.le_of_ble_eq_true rfl⟩ hP hK [2, 3] rfl 0 rfl rfl rfl hl.1 rfl (Nat.le_of_ble_eq_true rfl) d_X1_gather_68 (fun r_10 hr_11 => ?_)
      subst hr_11
      refine lv_sipush (v := 256) hx hb d_X1_gather_71 (by decide) ?_
      refine lv_irem hx hb d_X1_gather_74 (by decide) ?_
      refine cu_topi (y := 0) (by decide +kernel) ?_
      refine lv_iconst (v := 1) hx hb d_X1_gather_75 (by decide) ?_
      refine va_iast hx hb hK.1 hP hD hS 1 0 rfl rfl (vp_in_nI (n := 0) (N := 256) (Nat.le_of_ble_eq_true rfl) (by decide)) d_X1_gather_76 (fun H locs hP hD hS => ?_)
      have hP : va_P D vwCl [(c0, .inr (1, [.ref vs, .int 1, .int 0])), (vs, .inl (cI, 256, .inl (upd f 0 (1 : Int32)))), (h, .inr (4, [.ref w, .ref y, .ref a, .ref u, .ref v, .int 1, .int 0, .int 0, .int 0, .int 0, .int 0])), (w, .inl (cI, 12, .inl (fun _ => 0)))] H := hP
      have hD : va_D A [(c0, .inr (1, [.ref vs, .int 1, .int 0])), (vs, .inl (cI, 256, .inl (upd f 0 (1 : Int32)))), (h, .inr (4, [.ref w, .ref y, .ref a, .ref u, .ref v, .int 1, .int 0, .int 0, .int 0, .int 0, .int 0])), (w, .inl (cI, 12, .inl (fun _ => 0)))] := hD
      refine lv_iinc (v := 2) (lv' := [(3, .int 2), (0, .ref c0), (1, .ref h), (2, .int 0)]) hx hb d_X1_gather_77 hl (k := 0) rfl (by decide +kernel) (by decide) rfl (fun ls hl => ?_)
      refine lv_goto (tgt := 55) hx hb d_X1_gather_80 (by decide) ?_
      have key_12 : ∀ (n_14 j_13 : Nat) (hj_16 : j_13 + n_14 = 1000) (f2 : Nat → Int32) (hi_17 : 2 ≤ j_13) (hi_18 : f2 0 = 1) (H : Heap) (locs : List Loc) (ls : Array Slot) (hP : va_P D vwCl [(c0, .inr (1, [.ref vs, .int 1, .int 0])), (vs, .inl (cI, 256, .inl f2)), (h, .inr (4, [.ref w, .ref y, .ref a, .ref u, .ref v, .int 1, .int 0, .int 0, .int 0, .int 0, .int 0])), (w, .inl (cI, 12, .inl (fun _ => 0)))] H) (hD : va_D A [(c0, .inr (1, [.ref vs, .int 1, .int 0])), (vs, .inl (cI, 256, .inl f2)), (h, .inr (4, [.ref w, .ref y, .ref a, .ref u, .ref v, .int 1, .int 0, .int 0, .int 0, .int 0, .int 0])), (w, .inl (cI, 12, .inl (fun _ => 0)))]) (hS : va_S A s.heap H locs) (hl : lv_has ls 4 [(3, .int (nI j_13)), (0, .ref c0), (1, .ref h), (2, .int 0)]), W p l e (cu_rm 2 44 0 0) s m args below meth c H locs 0 0 Q (F0 m 55 ls []) := by
        intro n_14
        induction n_14 with
        | zero =>
          intro j_13 hj_16 f2 hi_17 hi_18 H locs ls hP hD hS hl
          obtain rfl : 1000 = j_13 := by omega
          have hl : lv_has ls 4 [(3, .int 1000), (0, .ref c0), (1, .ref h), (2, .int 0)] := hl
          have hP : va_P D vwCl [(c0, .inr (1, [.ref vs, .int 1, .int 0])), (vs, .inl (cI, 256, .inl f2)), (h, .inr (4, [.ref w, .ref y, .ref a, .ref u, .ref v, .int 1, .int 0, .int 0, .int 0, .int 0, .int 0])), (w, .inl (cI, 12, .inl (fun _ => 0)))] H := hP
          have hD : va_D A [(c0, .inr (1, [.ref vs, .int 1, .int 0])), (vs, .inl (cI, 256, .inl f2)), (h, .inr (4, [.ref w, .ref y, .ref a, .ref u, .ref v, .int 1, .int 0, .int 0, .int 0, .int 0, .int 0])), (w, .inl (cI, 12, .inl (fun _ => 0)))] := hD
          have hf9 := hi_18
          refine lv_iload_n hx hb d_X1_gather_55 rfl (lv_at hl 0 rfl) ?_
          refine lv_sipush (v := 999) hx hb d_X1_gather_56 (by decide) ?_
          refine lv_icmp_gt (tgt := 83) hx hb d_X1_gather_59 (by decide) (fun _ => ?_) (fun c_19 => absurd (by decide +kernel) c_19)
          refine lv_aload_n hx hb d_X1_gather_83 rfl (lv_at hl 1 rfl) ?_
          refine cu_VV (wc := [(c0, .inr (1, [.ref vs, .int 1, .int 0])), (vs, .inl (cI, 256, .inl f2))]) (wr := [(h, .inr (4, [.ref w, .ref y, .ref a, .ref u, .ref v, .int 1, .int 0, .int 0, .int 0, .int 0, .int 0])), (w, .inl (cI, 12, .inl (fun _ => 0)))]) (rest := []) [] ⟨hx, hb, hml, hown, hg⟩ (c_X1_markSubsets l D cI cZ cQ c0 vs f2) hd_X1_markSubsets k_613 k_610 k_612 k_18 k_47 ⟨Nat.le_of_ble_eq_true rfl, Nat.le_of_ble_eq_true rfl⟩ ⟨Nat.le_of_ble_eq_true rfl, Nat.le_of_ble_eq_true rfl⟩ hP hD hS hA hK [0, 1] [2, 3] rfl rfl (by decide) (by decide) (by decide) 0 rfl rfl rfl hl.1 rfl (Nat.le_of_ble_eq_true rfl) d_X1_gather_84 (fun w_22 H locs hw_21 hP hD hS => ?_)
          subst hw_21
          have hP : va_P D vwCl [(h, .inr (4, [.ref w, .ref y, .ref a, .ref u, .ref v, .int 1, .int 0, .int 0, .int 0, .int 0, .int 0])), (w, .inl (cI, 12, .inl (fun _ => 0))), (c0, .inr (1, [.ref vs, .int 1, .int 0])), (vs, .inl (cI, 256, .inl f2))] H := hP
          have hD : va_D A [(h, .inr (4, [.ref w, .ref y, .ref a, .ref u, .ref v, .int 1, .int 0, .int 0, .int 0, .int 0, .int 0])), (w, .inl (cI, 12, .inl (fun _ => 0))), (c0, .inr (1, [.ref vs, .int 1, .int 0])), (vs, .inl (cI, 256, .inl f2))] := hD
          refine lv_aload_n hx hb d_X1_gather_87 rfl (lv_at hl 1 rfl) ?_
          refine cu_VV (wc := [(c0, .inr (1, [.ref vs, .int 1, .int 0])), (vs, .inl (cI, 256, .inl f2))]) (wr := [(h, .inr (4, [.ref w, .ref y, .ref a, .ref u, .ref v, .int 1, .int 0, .int 0, .int 0, .int 0, .int 0])), (w, .inl (cI, 12, .inl (fun _ => 0)))]) (rest := []) [] ⟨hx, hb, hml, hown, hg⟩ (c_X1_fillValues l D cI cZ cQ c0 vs f2 (hf9)) hd_X1_fillValues k_617 k_614 k_616 k_19 k_47 ⟨Nat.le_of_ble_eq_true rfl, Nat.le_of_ble_eq_true rfl⟩ ⟨Nat.le_of_ble_eq_true rfl, Nat.le_of_ble_eq_true rfl⟩ hP hD hS hA hK [2, 3] [0, 1] rfl rfl (by decide) (by decide) (by decide) 0 rfl rfl rfl hl.1 rfl (Nat.le_of_ble_eq_true rfl) d_X1_gather_88 (fun w_25 H locs hw_24 hP hD hS => ?_)
          obtain ⟨g_26, hz_27, rfl⟩ := hw_24
          have hP : va_P D vwCl [(h, .inr (4, [.ref w, .ref y, .ref a, .ref u, .ref v, .int 1, .int 0, .int 0, .int 0, .int 0, .int 0])), (w, .inl (cI, 12, .inl (fun _ => 0))), (c0, .inr (1, [.ref vs, .int 1, .int 0])), (vs, .inl (cI, 256, .inl g_26))] H := hP
          have hD : va_D A [(h, .inr (4, [.ref w, .ref y, .ref a, .ref u, .ref v, .int 1, .int 0, .int 0, .int 0, .int 0, .int 0])), (w, .inl (cI, 12, .inl (fun _ => 0))), (c0, .inr (1, [.ref vs, .int 1, .int 0])), (vs, .inl (cI, 256, .inl g_26))] := hD
          exact hret _ _ _ _ [(c0, .inr (1, [.ref vs, .int 1, .int 0])), (vs, .inl (cI, 256, .inl g_26))] _ _ (hP.sub (ws' := [(c0, .inr (1, [.ref vs, .int 1, .int 0])), (vs, .inl (cI, 256, .inl g_26))]) [2, 3] rfl) (hD.sub (ws' := [(c0, .inr (1, [.ref vs, .int 1, .int 0])), (vs, .inl (cI, 256, .inl g_26))]) [2, 3] (by decide) rfl) hS (Nat.le_of_ble_eq_true rfl) (Nat.le_of_ble_eq_true rfl) d_X1_gather_91 ⟨g_26, hz_27, rfl⟩
        | succ n_14 ih_15 =>
          intro j_13 hj_16 f2 hi_17 hi_18 H locs ls hP hD hS hl
          refine lv_iload_n hx hb d_X1_gather_55 rfl (lv_at hl 0 rfl) ?_
          refine lv_sipush (v := 999) hx hb d_X1_gather_56 (by decide) ?_
          refine lv_icmp_gt (tgt := 83) hx hb d_X1_gather_59 (by decide) (fun c_28 => absurd c_28 (mt (nI_ltI (a := 999) (b := j_13) (by omega) (by omega)).mp (by omega))) (fun _ => ?_)
          refine lv_aload_n hx hb d_X1_gather_62 rfl (lv_at hl 1 rfl) ?_
          refine va_get (D := D) (ci := 1) (v := .ref vs) (C := RX1) (T := TX1) (N := 3) hx hb hg cu_iX1 hown hK.1 hP 0 rfl rfl 0 (by decide) (hg _ k_150) (fun _ h9 => h9) rfl d_X1_gather_63 ?_
          refine lv_aload_n hx hb d_X1_gather_66 rfl (lv_at hl 2 rfl) ?_
          refine lv_iload_n hx hb d_X1_gather_67 rfl (lv_at hl 0 rfl) ?_
          refine cu_VR (wc := [(h, .inr (4, [.ref w, .ref y, .ref a, .ref u, .ref v, .int 1, .int 0, .int 0, .int 0, .int 0, .int 0])), (w, .inl (cI, 12, .inl (fun _ => 0)))]) (rest := [.ref vs]) [.int (nI j_13)] ⟨hx, hb, hml, hown, hg⟩ (c_X6_placesBy l D cI cZ cQ h w y a u v j_13 (⟨by omega, by omega⟩)) hd_X6_placesBy k_609 k_606 k_607 k_608 k_53 ⟨Nat.le_of_ble_eq_true rfl, Nat.le_of_ble_eq_true rfl⟩ ⟨Nat.le_of_ble_eq_true rfl, Nat.le_of_ble_eq_true rfl⟩ hP hK [2, 3] rfl 0 rfl rfl rfl hl.1 rfl (Nat.le_of_ble_eq_true rfl) d_X1_gather_68 (fun r_29 hr_30 => ?_)
          subst hr_30
          refine lv_sipush (v := 256) hx hb d_X1_gather_71 (by decide) ?_
          refine lv_irem hx hb d_X1_gather_74 (by decide) ?_
          refine cu_topi (y := 0) (by decide +kernel) ?_
          refine lv_iconst (v := 1) hx hb d_X1_gather_75 (by decide) ?_
          refine va_iast hx hb hK.1 hP hD hS 1 0 rfl rfl (vp_in_nI (n := 0) (N := 256) (Nat.le_of_ble_eq_true rfl) (by decide)) d_X1_gather_76 (fun H locs hP hD hS => ?_)
          have hP : va_P D vwCl [(c0, .inr (1, [.ref vs, .int 1, .int 0])), (vs, .inl (cI, 256, .inl (upd f2 0 (1 : Int32)))), (h, .inr (4, [.ref w, .ref y, .ref a, .ref u, .ref v, .int 1, .int 0, .int 0, .int 0, .int 0, .int 0])), (w, .inl (cI, 12, .inl (fun _ => 0)))] H := hP
          have hD : va_D A [(c0, .inr (1, [.ref vs, .int 1, .int 0])), (vs, .inl (cI, 256, .inl (upd f2 0 (1 : Int32)))), (h, .inr (4, [.ref w, .ref y, .ref a, .ref u, .ref v, .int 1, .int 0, .int 0, .int 0, .int 0, .int 0])), (w, .inl (cI, 12, .inl (fun _ => 0)))] := hD
          refine lv_iinc (v := nI (j_13 + 1)) (lv' := [(3, .int (nI (j_13 + 1))), (0, .ref c0), (1, .ref h), (2, .int 0)]) hx hb d_X1_gather_77 hl (k := 0) rfl (nI_1 j_13) (by decide) rfl (fun ls hl => ?_)
          refine lv_goto (tgt := 55) hx hb d_X1_gather_80 (by decide) ?_
          exact ih_15 (j_13 + 1) (by first | rfl | omega) (upd f2 0 (1 : Int32)) (by omega) (rfl) _ _ _ hP hD hS (lv_sub hl [0, 1, 2, 3] rfl)
      exact key_12 998 2 (by first | rfl | omega) (upd f 0 (1 : Int32)) (Nat.le_refl _) (rfl) _ _ _ hP hD hS (lv_sub hl [0, 1, 2, 3] rfl)
    | succ n_5 ih_6 =>
      intro j_4 hj_7 f  H locs ls hP hD hS hl
      refine lv_iload_n hx hb d_X1_gather_33 rfl (lv_at hl 0 rfl) ?_
      refine lv_sipush (v := 256) hx hb d_X1_gather_34 (by decide) ?_
      refine lv_icmp_ge (tgt := 53) hx hb d_X1_gather_37 (by decide) (fun c_31 => absurd c_31 (mt (nI_leI (a := 256) (b := j_4) (by omega) (by omega)).mp (by omega))) (fun _ => ?_)
      refine lv_aload_n hx hb d_X1_gather_40 rfl (lv_at hl 1 rfl) ?_
      refine va_get (D := D) (ci := 1) (v := .ref vs) (C := RX1) (T := TX1) (N := 3) hx hb hg cu_iX1 hown hK.1 hP 0 rfl rfl 0 (by decide) (hg _ k_150) (fun _ h9 => h9) rfl d_X1_gather_41 ?_
      refine lv_iload_n hx hb d_X1_gather_44 rfl (lv_at hl 0 rfl) ?_
      refine lv_iconst (v := 0) hx hb d_X1_gather_45 (by decide) ?_
      refine va_iast hx hb hK.1 hP hD hS 1 0 rfl rfl (vp_in_nI (by omega) (by decide)) d_X1_gather_46 (fun H locs hP hD hS => ?_)
      have hP : va_P D vwCl [(c0, .inr (1, [.ref vs, .int 1, .int 0])), (vs, .inl (cI, 256, .inl (upd f (nI j_4 : Int32).toNatClampNeg (0 : Int32)))), (h, .inr (4, [.ref w, .ref y, .ref a, .ref u, .ref v, .int 1, .int 0, .int 0, .int 0, .int 0, .int 0])), (w, .inl (cI, 12, .inl (fun _ => 0)))] H := hP
      have hD : va_D A [(c0, .inr (1, [.ref vs, .int 1, .int 0])), (vs, .inl (cI, 256, .inl (upd f (nI j_4 : Int32).toNatClampNeg (0 : Int32)))), (h, .inr (4, [.ref w, .ref y, .ref a, .ref u, .ref v, .int 1, .int 0, .int 0, .int 0, .int 0, .int 0])), (w, .inl (cI, 12, .inl (fun _ => 0)))] := hD
      refine lv_iinc (v := nI (j_4 + 1)) (lv' := [(3, .int (nI (j_4 + 1))), (0, .ref c0), (1, .ref h), (2, .int 0)]) hx hb d_X1_gather_47 hl (k := 0) rfl (nI_1 j_4) (by decide) rfl (fun ls hl => ?_)
      refine lv_goto (tgt := 33) hx hb d_X1_gather_50 (by decide) ?_
      exact ih_6 (j_4 + 1) (by first | rfl | omega) (upd f (nI j_4 : Int32).toNatClampNeg (0 : Int32))  _ _ _ hP hD hS (lv_sub hl [0, 1, 2, 3] rfl)
  exact key_3 256 0 (by first | rfl | omega) (fun _ => 0)  _ _ _ hP hD hS (lv_sub hl [0, 1, 2, 3] rfl)
set_option maxHeartbeats 4000000 in
set_option maxRecDepth 100000 in
theorem c_X1_power (l : Launch) (D : va_G) (cI cZ cQ : ClassId) (c1 : Int32) : cu_R l D (cu_TY cI cZ cQ) yX1_power cX1_power 4 .int 0 0 [.int c1, .int 0] [] (fun r => r = 1) := by
  refine cu_R.intro (by decide) (Nat.le_of_ble_eq_true rfl) ?_
  intro p e s m args below meth c Q ls S hret hP hK hl
  obtain ⟨hx, hb, hml, hown, hg⟩ := S
  have hown : s.vm.findClass RX1 = some m.cls := hown
  have hl : lv_has ls 4 [(0, .int c1), (1, .int 0)] := hl
  refine lv_iconst (v := 1) hx hb d_X1_power_0 (by decide) ?_
  refine lv_istore_n (lv' := [(2, .int 1), (0, .int c1), (1, .int 0)]) hx hb d_X1_power_1 rfl hl (by decide) rfl (fun ls hl => ?_)
  refine lv_iconst (v := 0) hx hb d_X1_power_2 (by decide) ?_
  refine lv_istore_n (lv' := [(3, .int 0), (2, .int 1), (0, .int c1), (1, .int 0)]) hx hb d_X1_power_3 rfl hl (by decide) rfl (fun ls hl => ?_)
  refine lv_iload_n hx hb d_X1_power_4 rfl (lv_at hl 0 rfl) ?_
  refine lv_iload_n hx hb d_X1_power_5 rfl (lv_at hl 3 rfl) ?_
  refine lv_icmp_ge (tgt := 19) hx hb d_X1_power_6 (by decide) (fun _ => ?_) (fun c_1 => absurd (by decide +kernel) c_1)
  refine lv_iload_n hx hb d_X1_power_19 rfl (lv_at hl 1 rfl) ?_
  exact hret _ _ _ d_X1_power_20 (rfl) (rfl)
set_option maxHeartbeats 4000000 in
set_option maxRecDepth 100000 in
theorem c_X1_partOfFraction (l : Launch) (D : va_G) (cI cZ cQ : ClassId) (c1 : Int32) : cu_R l D (cu_TY cI cZ cQ) yX1_partOfFraction cX1_partOfFraction 7 .int 0 0 [.int 1, .int 1, .int c1] [] (fun r => r = 1) := by
  refine cu_R.intro (by decide) (Nat.le_of_ble_eq_true rfl) ?_
  intro p e s m args below meth c Q ls S hret hP hK hl
  obtain ⟨hx, hb, hml, hown, hg⟩ := S
  have hown : s.vm.findClass RX1 = some m.cls := hown
  have hl : lv_has ls 7 [(0, .int 1), (1, .int 1), (2, .int c1)] := hl
  refine lv_iload_n hx hb d_X1_partOfFraction_0 rfl (lv_at hl 1 rfl) ?_
  refine lv_istore_n (lv' := [(3, .int 1), (0, .int 1), (1, .int 1), (2, .int c1)]) hx hb d_X1_partOfFraction_1 rfl hl (by decide) rfl (fun ls hl => ?_)
  refine lv_iload_n hx hb d_X1_partOfFraction_2 rfl (lv_at hl 1 rfl) ?_
  refine lv_istore (lv' := [(4, .int 1), (3, .int 1), (0, .int 1), (1, .int 1), (2, .int c1)]) hx hb d_X1_partOfFraction_3 hl (by decide) rfl (fun ls hl => ?_)
  refine lv_iconst (v := 0) hx hb d_X1_partOfFraction_5 (by decide) ?_
  refine lv_istore (lv' := [(5, .int 0), (4, .int 1), (3, .int 1), (0, .int 1), (1, .int 1), (2, .int c1)]) hx hb d_X1_partOfFraction_6 hl (by decide) rfl (fun ls hl => ?_)
  refine lv_iload hx hb d_X1_partOfFraction_8 (lv_at hl 0 rfl) ?_
  refine lv_bipush (v := 64) hx hb d_X1_partOfFraction_10 (by decide) ?_
  refine lv_icmp_ge (tgt := 39) hx hb d_X1_partOfFraction_12 (by decide) (fun c_1 => absurd c_1 (by decide +kernel)) (fun _ => ?_)
  refine lv_iload hx hb d_X1_partOfFraction_15 (lv_at hl 1 rfl) ?_
  refine lv_if_eq (tgt := 39) hx hb d_X1_partOfFraction_17 (by decide) (fun c_2 => absurd c_2 (by decide +kernel)) (fun _ => ?_)
  refine lv_iload_n hx hb d_X1_partOfFraction_20 rfl (lv_at hl 2 rfl) ?_
  refine lv_iload hx hb d_X1_partOfFraction_21 (lv_at hl 1 rfl) ?_
  refine lv_irem hx hb d_X1_partOfFraction_23 (by decide) ?_
  refine cu_topi (y := 0) (by decide +kernel) ?_
  refine lv_istore (lv' := [(6, .int 0), (5, .int 0), (4, .int 1), (3, .int 1), (0, .int 1), (1, .int 1), (2, .int c1)]) hx hb d_X1_partOfFraction_24 hl (by decide) rfl (fun ls hl => ?_)
  refine lv_iload hx hb d_X1_partOfFraction_26 (lv_at hl 2 rfl) ?_
  refine lv_istore_n (lv' := [(3, .int 1), (6, .int 0), (5, .int 0), (4, .int 1), (0, .int 1), (1, .int 1), (2, .int c1)]) hx hb d_X1_partOfFraction_28 rfl hl (by decide) rfl (fun ls hl => ?_)
  refine lv_iload hx hb d_X1_partOfFraction_29 (lv_at hl 1 rfl) ?_
  refine lv_istore (lv' := [(4, .int 0), (3, .int 1), (6, .int 0), (5, .int 0), (0, .int 1), (1, .int 1), (2, .int c1)]) hx hb d_X1_partOfFraction_31 hl (by decide) rfl (fun ls hl => ?_)
  refine lv_iinc (v := 1) (lv' := [(5, .int 1), (4, .int 0), (3, .int 1), (6, .int 0), (0, .int 1), (1, .int 1), (2, .int c1)]) hx hb d_X1_partOfFraction_33 hl (k := 3) rfl (by decide +kernel) (by decide) rfl (fun ls hl => ?_)
  refine lv_goto (tgt := 8) hx hb d_X1_partOfFraction_36 (by decide) ?_
  refine lv_iload hx hb d_X1_partOfFraction_8 (lv_at hl 0 rfl) ?_
  refine lv_bipush (v := 64) hx hb d_X1_partOfFraction_10 (by decide) ?_
  refine lv_icmp_ge (tgt := 39) hx hb d_X1_partOfFraction_12 (by decide) (fun c_3 => absurd c_3 (by decide +kernel)) (fun _ => ?_)
  refine lv_iload hx hb d_X1_partOfFraction_15 (lv_at hl 1 rfl) ?_
  refine lv_if_eq (tgt := 39) hx hb d_X1_partOfFraction_17 (by decide) (fun _ => ?_) (fun c_4 => absurd (by decide +kernel) c_4)
  refine lv_iload_n hx hb d_X1_partOfFraction_39 rfl (lv_at hl 2 rfl) ?_
  refine lv_if_ne (tgt := 45) hx hb d_X1_partOfFraction_40 (by decide) (fun _ => ?_) (fun c_5 => absurd c_5 (by decide +kernel))
  refine lv_iload_n hx hb d_X1_partOfFraction_45 rfl (lv_at hl 6 rfl) ?_
  refine lv_if_eq (tgt := 55) hx hb d_X1_partOfFraction_46 (by decide) (fun c_6 => ?_) (fun c_6 => ?_)
  · skip
    refine lv_iload_n hx hb d_X1_partOfFraction_55 rfl (lv_at hl 5 rfl) ?_
    refine lv_iload_n hx hb d_X1_partOfFraction_56 rfl (lv_at hl 2 rfl) ?_
    refine lv_idiv hx hb d_X1_partOfFraction_57 (by decide) ?_
    refine cu_topi (y := 1) (by decide +kernel) ?_
    exact hret _ _ _ d_X1_partOfFraction_58 (rfl) (rfl)
  · skip
    refine lv_iload_n hx hb d_X1_partOfFraction_49 rfl (lv_at hl 4 rfl) ?_
    refine lv_iload_n hx hb d_X1_partOfFraction_50 rfl (lv_at hl 2 rfl) ?_
    refine lv_idiv hx hb d_X1_partOfFraction_51 (by decide) ?_
    refine cu_topi (y := 1) (by decide +kernel) ?_
    refine lv_goto (tgt := 58) hx hb d_X1_partOfFraction_52 (by decide) ?_
    exact hret _ _ _ d_X1_partOfFraction_58 (rfl) (rfl)
set_option maxHeartbeats 4000000 in
set_option maxRecDepth 100000 in
theorem c_X1_chanceOfUnit (l : Launch) (D : va_G) (cI cZ cQ : ClassId) (c0 vs : Nat) (f : Nat → Int32) (c1 c2 : Int32) (hy_0 : f 0 = 0) : cu_R l D (cu_TY cI cZ cQ) yX1_chanceOfUnit cX1_chanceOfUnit 6 .int 1 26 [.ref c0, .int c1, .int c2] [(c0, .inr (1, [.ref vs, .int 1, .int 0])), (vs, .inl (cI, 256, .inl f))] (fun r => r = 1) := by
  refine cu_R.intro (by decide) (Nat.le_of_ble_eq_true rfl) ?_
  intro p e s m args below meth c Q ls S hret hP hK hl
  obtain ⟨hx, hb, hml, hown, hg⟩ := S
  have hown : s.vm.findClass RX1 = some m.cls := hown
  have hl : lv_has ls 6 [(0, .ref c0), (1, .int c1), (2, .int c2)] := hl
  refine lv_iconst (v := 0) hx hb d_X1_chanceOfUnit_0 (by decide) ?_
  refine lv_istore_n (lv' := [(3, .int 0), (0, .ref c0), (1, .int c1), (2, .int c2)]) hx hb d_X1_chanceOfUnit_1 rfl hl (by decide) rfl (fun ls hl => ?_)
  refine lv_iconst (v := 0) hx hb d_X1_chanceOfUnit_2 (by decide) ?_
  refine lv_istore (lv' := [(4, .int 0), (3, .int 0), (0, .ref c0), (1, .int c1), (2, .int c2)]) hx hb d_X1_chanceOfUnit_3 hl (by decide) rfl (fun ls hl => ?_)
  refine lv_iload hx hb d_X1_chanceOfUnit_5 (lv_at hl 0 rfl) ?_
  refine lv_iconst (v := 1) hx hb d_X1_chanceOfUnit_7 (by decide) ?_
  refine lv_aload_n hx hb d_X1_chanceOfUnit_8 rfl (lv_at hl 2 rfl) ?_
  refine va_get (D := D) (ci := 1) (v := .int 0) (C := RX1) (T := TX1) (N := 3) hx hb hg cu_iX1 hown hK.1 hP 0 rfl rfl 2 (by decide) (hg _ k_152) (fun _ h9 => h9) rfl d_X1_chanceOfUnit_9 ?_
  refine lv_ishl hx hb d_X1_chanceOfUnit_12 ?_
  refine cu_topi (y := 1) (by decide +kernel) ?_
  refine lv_icmp_ge (tgt := 65) hx hb d_X1_chanceOfUnit_13 (by decide) (fun c_1 => absurd c_1 (by decide +kernel)) (fun _ => ?_)
  refine lv_iload hx hb d_X1_chanceOfUnit_16 (lv_at hl 0 rfl) ?_
  refine cu_SR (wc := []) (rest := []) [.int 0] ⟨hx, hb, hml, hown, hg⟩ (c_J6_bitCount l D cI cZ cQ ) hd_J6_bitCount_0f7a4 k_333 k_618 k_332 k_51 ⟨Nat.le_of_ble_eq_true rfl, Nat.le_of_ble_eq_true rfl⟩ ⟨Nat.le_of_ble_eq_true rfl, Nat.le_of_ble_eq_true rfl⟩ hP hK [] rfl rfl hl.1 rfl (Nat.le_of_ble_eq_true rfl) d_X1_chanceOfUnit_18 (fun r_2 hr_3 => ?_)
  subst hr_3
  refine lv_istore (lv' := [(5, .int 0), (4, .int 0), (3, .int 0), (0, .ref c0), (1, .int c1), (2, .int c2)]) hx hb d_X1_chanceOfUnit_21 hl (by decide) rfl (fun ls hl => ?_)
  refine lv_aload_n hx hb d_X1_chanceOfUnit_23 rfl (lv_at hl 3 rfl) ?_
  refine va_get (D := D) (ci := 1) (v := .ref vs) (C := RX1) (T := TX1) (N := 3) hx hb hg cu_iX1 hown hK.1 hP 0 rfl rfl 0 (by decide) (hg _ k_150) (fun _ h9 => h9) rfl d_X1_chanceOfUnit_24 ?_
  refine lv_iload hx hb d_X1_chanceOfUnit_27 (lv_at hl 1 rfl) ?_
  refine va_iald hx hb hK.1 hP 1 0 rfl rfl (vp_in_nI (n := 0) (N := 256) (Nat.le_of_ble_eq_true rfl) (by decide)) d_X1_chanceOfUnit_29 ?_
  refine cu_topi (y := 0) (hy_0) ?_
  refine lv_iload hx hb d_X1_chanceOfUnit_30 (lv_at hl 0 rfl) ?_
  refine lv_icmp_ne (tgt := 59) hx hb d_X1_chanceOfUnit_32 (by decide) (fun c_4 => absurd (by decide +kernel) c_4) (fun _ => ?_)
  refine lv_iload_n hx hb d_X1_chanceOfUnit_35 rfl (lv_at hl 2 rfl) ?_
  refine lv_iload_n hx hb d_X1_chanceOfUnit_36 rfl (lv_at hl 4 rfl) ?_
  refine lv_aload_n hx hb d_X1_chanceOfUnit_37 rfl (lv_at hl 3 rfl) ?_
  refine va_get (D := D) (ci := 1) (v := .int 0) (C := RX1) (T := TX1) (N := 3) hx hb hg cu_iX1 hown hK.1 hP 0 rfl rfl 2 (by decide) (hg _ k_152) (fun _ h9 => h9) rfl d_X1_chanceOfUnit_38 ?_
  refine lv_iload hx hb d_X1_chanceOfUnit_41 (lv_at hl 0 rfl) ?_
  refine lv_isub hx hb d_X1_chanceOfUnit_43 ?_
  refine cu_topi (y := 0) (by decide +kernel) ?_
  refine cu_SR (wc := []) (rest := [.int 0]) [.int c1, .int 0] ⟨hx, hb, hml, hown, hg⟩ (c_X1_power l D cI cZ cQ c1) hd_X1_power k_645 k_643 k_644 k_47 ⟨Nat.le_of_ble_eq_true rfl, Nat.le_of_ble_eq_true rfl⟩ ⟨Nat.le_of_ble_eq_true rfl, Nat.le_of_ble_eq_true rfl⟩ hP hK [] rfl rfl hl.1 rfl (Nat.le_of_ble_eq_true rfl) d_X1_chanceOfUnit_44 (fun r_5 hr_6 => ?_)
  subst hr_6
  refine lv_bipush (v := 10) hx hb d_X1_chanceOfUnit_47 (by decide) ?_
  refine lv_iload_n hx hb d_X1_chanceOfUnit_49 rfl (lv_at hl 4 rfl) ?_
  refine lv_isub hx hb d_X1_chanceOfUnit_50 ?_
  refine lv_iload hx hb d_X1_chanceOfUnit_51 (lv_at hl 0 rfl) ?_
  refine cu_SR (wc := []) (rest := [.int 1, .int 0]) [.int (10 - c1), .int 0] ⟨hx, hb, hml, hown, hg⟩ (c_X1_power l D cI cZ cQ (10 - c1)) hd_X1_power k_645 k_643 k_644 k_47 ⟨Nat.le_of_ble_eq_true rfl, Nat.le_of_ble_eq_true rfl⟩ ⟨Nat.le_of_ble_eq_true rfl, Nat.le_of_ble_eq_true rfl⟩ hP hK [] rfl rfl hl.1 rfl (Nat.le_of_ble_eq_true rfl) d_X1_chanceOfUnit_53 (fun r_7 hr_8 => ?_)
  subst hr_8
  refine lv_imul hx hb d_X1_chanceOfUnit_56 ?_
  refine cu_topi (y := 1) (by decide +kernel) ?_
  refine lv_iadd hx hb d_X1_chanceOfUnit_57 ?_
  refine cu_topi (y := 1) (by decide +kernel) ?_
  refine lv_istore_n (lv' := [(3, .int 1), (5, .int 0), (4, .int 0), (0, .ref c0), (1, .int c1), (2, .int c2)]) hx hb d_X1_chanceOfUnit_58 rfl hl (by decide) rfl (fun ls hl => ?_)
  refine lv_iinc (v := 1) (lv' := [(4, .int 1), (3, .int 1), (5, .int 0), (0, .ref c0), (1, .int c1), (2, .int c2)]) hx hb d_X1_chanceOfUnit_59 hl (k := 2) rfl (by decide +kernel) (by decide) rfl (fun ls hl => ?_)
  refine lv_goto (tgt := 5) hx hb d_X1_chanceOfUnit_62 (by decide) ?_
  refine lv_iload hx hb d_X1_chanceOfUnit_5 (lv_at hl 0 rfl) ?_
  refine lv_iconst (v := 1) hx hb d_X1_chanceOfUnit_7 (by decide) ?_
  refine lv_aload_n hx hb d_X1_chanceOfUnit_8 rfl (lv_at hl 3 rfl) ?_
  refine va_get (D := D) (ci := 1) (v := .int 0) (C := RX1) (T := TX1) (N := 3) hx hb hg cu_iX1 hown hK.1 hP 0 rfl rfl 2 (by decide) (hg _ k_152) (fun _ h9 => h9) rfl d_X1_chanceOfUnit_9 ?_
  refine lv_ishl hx hb d_X1_chanceOfUnit_12 ?_
  refine cu_topi (y := 1) (by decide +kernel) ?_
  refine lv_icmp_ge (tgt := 65) hx hb d_X1_chanceOfUnit_13 (by decide) (fun _ => ?_) (fun c_9 => absurd (by decide +kernel) c_9)
  refine lv_iload_n hx hb d_X1_chanceOfUnit_65 rfl (lv_at hl 1 rfl) ?_
  refine lv_bipush (v := 10) hx hb d_X1_chanceOfUnit_66 (by decide) ?_
  refine lv_aload_n hx hb d_X1_chanceOfUnit_68 rfl (lv_at hl 3 rfl) ?_
  refine va_get (D := D) (ci := 1) (v := .int 0) (C := RX1) (T := TX1) (N := 3) hx hb hg cu_iX1 hown hK.1 hP 0 rfl rfl 2 (by decide) (hg _ k_152) (fun _ h9 => h9) rfl d_X1_chanceOfUnit_69 ?_
  refine cu_SR (wc := []) (rest := [.int 1]) [.int 10, .int 0] ⟨hx, hb, hml, hown, hg⟩ (c_X1_power l D cI cZ cQ 10) hd_X1_power k_645 k_643 k_644 k_47 ⟨Nat.le_of_ble_eq_true rfl, Nat.le_of_ble_eq_true rfl⟩ ⟨Nat.le_of_ble_eq_true rfl, Nat.le_of_ble_eq_true rfl⟩ hP hK [] rfl rfl hl.1 rfl (Nat.le_of_ble_eq_true rfl) d_X1_chanceOfUnit_72 (fun r_10 hr_11 => ?_)
  subst hr_11
  refine lv_iload_n hx hb d_X1_chanceOfUnit_75 rfl (lv_at hl 5 rfl) ?_
  refine cu_SR (wc := []) (rest := []) [.int 1, .int 1, .int c2] ⟨hx, hb, hml, hown, hg⟩ (c_X1_partOfFraction l D cI cZ cQ c2) hd_X1_partOfFraction k_634 k_632 k_633 k_47 ⟨Nat.le_of_ble_eq_true rfl, Nat.le_of_ble_eq_true rfl⟩ ⟨Nat.le_of_ble_eq_true rfl, Nat.le_of_ble_eq_true rfl⟩ hP hK [] rfl rfl hl.1 rfl (Nat.le_of_ble_eq_true rfl) d_X1_chanceOfUnit_76 (fun r_12 hr_13 => ?_)
  subst hr_13
  exact hret _ _ _ d_X1_chanceOfUnit_79 (rfl) (rfl)
def cu_slo (c1 : Int32) : Int32 := if c1 < 0 then (-2) else if 10 < c1 then (-2) else 1
set_option maxHeartbeats 4000000 in
set_option maxRecDepth 100000 in
theorem c_X8_lost (l : Launch) (D : va_G) (cI cZ cQ : ClassId) (x tx nw sp ac cr sg sl fl : Nat) (w y a u : Nat) (vs : Nat) (c1 c2 : Int32) : cu_W l D (cu_TY cI cZ cQ) yX8_lost cX8_lost 3 .int 4 86 6 14034 [.ref x, .int c1, .int c2] [(x, .inr (6, [.ref tx, .ref nw, .ref sp, .ref ac, .ref cr, .ref sg, .ref sl, .ref fl, .null, .long 0])), (nw, .inr (2, [.ref w, .ref y, .ref a, .ref u, .int 0, .int 0, .int 1, .int 0])), (cr, .inr (1, [.ref vs, .int 0, .int 0])), (vs, .inl (cI, 256, .inl (fun _ => 0)))] (fun r ww => (r = cu_slo c1) ∧ ww = []) := by
  refine cu_W.intro (by decide) (Nat.le_of_ble_eq_true rfl) ?_
  intro p e s m args below meth c Q ls A S hret hP hD hS hA hK hl
  obtain ⟨hx, hb, hml, hown, hg⟩ := S
  have hown : s.vm.findClass RX8 = some m.cls := hown
  have hl : lv_has ls 3 [(0, .ref x), (1, .int c1), (2, .int c2)] := hl
  refine lv_iload_n hx hb d_X8_lost_0 rfl (lv_at hl 1 rfl) ?_
  refine lv_if_lt (tgt := 10) hx hb d_X8_lost_1 (by decide) (fun c_1 => ?_) (fun c_1 => ?_)
  · skip
    refine lv_bipush (v := (-2)) hx hb d_X8_lost_10 (by decide) ?_
    exact hret _ _ _ _ [] _ _ _ (hP.sub (ws' := []) [] rfl) (hD.sub (ws' := []) [] (by decide) rfl) hS (Nat.le_of_ble_eq_true rfl) (Nat.le_of_ble_eq_true rfl) d_X8_lost_12 (rfl) ⟨by unfold cu_slo; rw [if_pos c_1], rfl⟩
  · skip
    refine lv_iload_n hx hb d_X8_lost_4 rfl (lv_at hl 1 rfl) ?_
    refine lv_bipush (v := 10) hx hb d_X8_lost_5 (by decide) ?_
    refine lv_icmp_le (tgt := 13) hx hb d_X8_lost_7 (by decide) (fun c_2 => ?_) (fun c_2 => ?_)
    · skip
      refine lv_aload_n hx hb d_X8_lost_13 rfl (lv_at hl 0 rfl) ?_
      refine va_get (D := D) (ci := 6) (v := .ref nw) (C := RX8) (T := TX8) (N := 10) hx hb hg cu_iX8 hown hK.1 hP 0 rfl rfl 1 (by decide) (hg _ k_180) (fun _ h9 => h9) rfl d_X8_lost_14 ?_
      refine cu_VR (wc := [(nw, .inr (2, [.ref w, .ref y, .ref a, .ref u, .int 0, .int 0, .int 1, .int 0]))]) (rest := []) [] ⟨hx, hb, hml, hown, hg⟩ (c_X3_counted l D cI cZ cQ nw w y a u 1 0) hd_X3_counted k_597 k_594 k_595 k_596 k_45 ⟨Nat.le_of_ble_eq_true rfl, Nat.le_of_ble_eq_true rfl⟩ ⟨Nat.le_of_ble_eq_true rfl, Nat.le_of_ble_eq_true rfl⟩ hP hK [1] rfl 0 rfl rfl rfl hl.1 rfl (Nat.le_of_ble_eq_true rfl) d_X8_lost_17 (fun r_3 hr_4 => ?_)
      subst hr_4
      refine lv_bipush (v := 8) hx hb d_X8_lost_20 (by decide) ?_
      refine lv_icmp_le (tgt := 28) hx hb d_X8_lost_22 (by decide) (fun _ => ?_) (fun c_5 => absurd (by decide +kernel) c_5)
      refine lv_aload_n hx hb d_X8_lost_28 rfl (lv_at hl 0 rfl) ?_
      refine va_get (D := D) (ci := 6) (v := .ref cr) (C := RX8) (T := TX8) (N := 10) hx hb hg cu_iX8 hown hK.1 hP 0 rfl rfl 4 (by decide) (hg _ k_183) (fun _ h9 => h9) rfl d_X8_lost_29 ?_
      refine lv_aload_n hx hb d_X8_lost_32 rfl (lv_at hl 0 rfl) ?_
      refine cu_VQ (wc := [(x, .inr (6, [.ref tx, .ref nw, .ref sp, .ref ac, .ref cr, .ref sg, .ref sl, .ref fl, .null, .long 0])), (nw, .inr (2, [.ref w, .ref y, .ref a, .ref u, .int 0, .int 0, .int 1, .int 0]))]) (wr := [(cr, .inr (1, [.ref vs, .int 0, .int 0])), (vs, .inl (cI, 256, .inl (fun _ => 0)))]) (rest := [.ref cr]) [] ⟨hx, hb, hml, hown, hg⟩ (c_X8_surveyNow l D cI cZ cQ x tx nw sp ac cr sg sl fl w y a u) hd_X8_surveyNow k_424 k_421 k_423 k_7 k_43 ⟨Nat.le_of_ble_eq_true rfl, Nat.le_of_ble_eq_true rfl⟩ ⟨Nat.le_of_ble_eq_true rfl, Nat.le_of_ble_eq_true rfl⟩ hP hD hS hA hK [0, 1] [2, 3] rfl rfl (by decide) (by decide) (by decide) 0 rfl rfl rfl hl.1 rfl (Nat.le_of_ble_eq_true rfl) d_X8_lost_33 (fun r_6 w_8 H locs hw_7 hP hD hS => ?_)
      obtain ⟨q0_9, v1_10, v2_11, v3_12, v4_13, v5_14, hr_15⟩ := hw_7
      obtain ⟨hqa, hqb⟩ := Prod.mk.inj hr_15
      have hqa := hqa.symm
      subst hqa
      subst hqb
      have hP : va_P D vwCl [(cr, .inr (1, [.ref vs, .int 0, .int 0])), (vs, .inl (cI, 256, .inl (fun _ => 0))), (x, .inr (6, [.ref tx, .ref nw, .ref sp, .ref ac, .ref cr, .ref sg, .ref sl, .ref fl, .ref q0_9, .long 0])), (nw, .inr (2, [.ref w, .ref y, .ref a, .ref u, .int 0, .int 0, .int 1, .int 0])), (q0_9, .inr (4, [.ref v1_10, .ref v2_11, .ref v3_12, .ref v4_13, .ref v5_14, .int 1, .int 0, .int 0, .int 0, .int 0, .int 0])), (v1_10, .inl (cI, 12, .inl (fun _ => 0))), (v2_11, .inl (cI, 12, .inl (fun _ => 0))), (v3_12, .inl (cI, 12000, .inl (fun _ => 0))), (v4_13, .inl (cI, 1000, .inl (fun _ => 0))), (v5_14, .inl (cI, 999, .inl (fun _ => 0)))] H := hP
      have hD : va_D A [(cr, .inr (1, [.ref vs, .int 0, .int 0])), (vs, .inl (cI, 256, .inl (fun _ => 0))), (x, .inr (6, [.ref tx, .ref nw, .ref sp, .ref ac, .ref cr, .ref sg, .ref sl, .ref fl, .ref q0_9, .long 0])), (nw, .inr (2, [.ref w, .ref y, .ref a, .ref u, .int 0, .int 0, .int 1, .int 0])), (q0_9, .inr (4, [.ref v1_10, .ref v2_11, .ref v3_12, .ref v4_13, .ref v5_14, .int 1, .int 0, .int 0, .int 0, .int 0, .int 0])), (v1_10, .inl (cI, 12, .inl (fun _ => 0))), (v2_11, .inl (cI, 12, .inl (fun _ => 0))), (v3_12, .inl (cI, 12000, .inl (fun _ => 0))), (v4_13, .inl (cI, 1000, .inl (fun _ => 0))), (v5_14, .inl (cI, 999, .inl (fun _ => 0)))] := hD
      refine W.widen (k := 6) (n := 14034) (Nat.le_of_ble_eq_true rfl) (Nat.le_of_ble_eq_true rfl) ?_
      refine lv_aload_n hx hb d_X8_lost_36 rfl (lv_at hl 0 rfl) ?_
      refine va_get (D := D) (ci := 6) (v := .ref nw) (C := RX8) (T := TX8) (N := 10) hx hb hg cu_iX8 hown hK.1 hP 2 rfl rfl 1 (by decide) (hg _ k_180) (fun _ h9 => h9) rfl d_X8_lost_37 ?_
      refine cu_VR (wc := [(nw, .inr (2, [.ref w, .ref y, .ref a, .ref u, .int 0, .int 0, .int 1, .int 0]))]) (rest := [.ref q0_9, .ref cr]) [] ⟨hx, hb, hml, hown, hg⟩ (c_X3_counted l D cI cZ cQ nw w y a u 1 0) hd_X3_counted k_597 k_594 k_595 k_596 k_45 ⟨Nat.le_of_ble_eq_true rfl, Nat.le_of_ble_eq_true rfl⟩ ⟨Nat.le_of_ble_eq_true rfl, Nat.le_of_ble_eq_true rfl⟩ hP hK [3] rfl 0 rfl rfl rfl hl.1 rfl (Nat.le_of_ble_eq_true rfl) d_X8_lost_40 (fun r_16 hr_17 => ?_)
      subst hr_17
      refine cu_VV (wc := [(cr, .inr (1, [.ref vs, .int 0, .int 0])), (vs, .inl (cI, 256, .inl (fun _ => 0))), (q0_9, .inr (4, [.ref v1_10, .ref v2_11, .ref v3_12, .ref v4_13, .ref v5_14, .int 1, .int 0, .int 0, .int 0, .int 0, .int 0])), (v1_10, .inl (cI, 12, .inl (fun _ => 0)))]) (wr := [(x, .inr (6, [.ref tx, .ref nw, .ref sp, .ref ac, .ref cr, .ref sg, .ref sl, .ref fl, .ref q0_9, .long 0])), (nw, .inr (2, [.ref w, .ref y, .ref a, .ref u, .int 0, .int 0, .int 1, .int 0])), (v2_11, .inl (cI, 12, .inl (fun _ => 0))), (v3_12, .inl (cI, 12000, .inl (fun _ => 0))), (v4_13, .inl (cI, 1000, .inl (fun _ => 0))), (v5_14, .inl (cI, 999, .inl (fun _ => 0)))]) (rest := []) [.ref q0_9, .int 0] ⟨hx, hb, hml, hown, hg⟩ (c_X1_gather l D cI cZ cQ cr vs q0_9 v1_10 v2_11 v3_12 v4_13 v5_14) hd_X1_gather k_605 k_602 k_603 k_604 k_47 ⟨Nat.le_of_ble_eq_true rfl, Nat.le_of_ble_eq_true rfl⟩ ⟨Nat.le_of_ble_eq_true rfl, Nat.le_of_ble_eq_true rfl⟩ hP hD hS hA hK [0, 1, 4, 5] [2, 3, 6, 7, 8, 9] rfl rfl (by decide) (by decide) (by decide) 0 rfl rfl rfl hl.1 rfl (Nat.le_of_ble_eq_true rfl) d_X8_lost_43 (fun w_20 H locs hw_19 hP hD hS => ?_)
      obtain ⟨g_21, hz_22, rfl⟩ := hw_19
      have hP : va_P D vwCl [(x, .inr (6, [.ref tx, .ref nw, .ref sp, .ref ac, .ref cr, .ref sg, .ref sl, .ref fl, .ref q0_9, .long 0])), (nw, .inr (2, [.ref w, .ref y, .ref a, .ref u, .int 0, .int 0, .int 1, .int 0])), (v2_11, .inl (cI, 12, .inl (fun _ => 0))), (v3_12, .inl (cI, 12000, .inl (fun _ => 0))), (v4_13, .inl (cI, 1000, .inl (fun _ => 0))), (v5_14, .inl (cI, 999, .inl (fun _ => 0))), (cr, .inr (1, [.ref vs, .int 1, .int 0])), (vs, .inl (cI, 256, .inl g_21))] H := hP
      have hD : va_D A [(x, .inr (6, [.ref tx, .ref nw, .ref sp, .ref ac, .ref cr, .ref sg, .ref sl, .ref fl, .ref q0_9, .long 0])), (nw, .inr (2, [.ref w, .ref y, .ref a, .ref u, .int 0, .int 0, .int 1, .int 0])), (v2_11, .inl (cI, 12, .inl (fun _ => 0))), (v3_12, .inl (cI, 12000, .inl (fun _ => 0))), (v4_13, .inl (cI, 1000, .inl (fun _ => 0))), (v5_14, .inl (cI, 999, .inl (fun _ => 0))), (cr, .inr (1, [.ref vs, .int 1, .int 0])), (vs, .inl (cI, 256, .inl g_21))] := hD
      refine lv_aload_n hx hb d_X8_lost_46 rfl (lv_at hl 0 rfl) ?_
      refine va_get (D := D) (ci := 6) (v := .ref cr) (C := RX8) (T := TX8) (N := 10) hx hb hg cu_iX8 hown hK.1 hP 0 rfl rfl 4 (by decide) (hg _ k_183) (fun _ h9 => h9) rfl d_X8_lost_47 ?_
      refine lv_iload_n hx hb d_X8_lost_50 rfl (lv_at hl 1 rfl) ?_
      refine lv_iload_n hx hb d_X8_lost_51 rfl (lv_at hl 2 rfl) ?_
      refine cu_VR (wc := [(cr, .inr (1, [.ref vs, .int 1, .int 0])), (vs, .inl (cI, 256, .inl g_21))]) (rest := []) [.int c1, .int c2] ⟨hx, hb, hml, hown, hg⟩ (c_X1_chanceOfUnit l D cI cZ cQ cr vs g_21 c1 c2 (hz_22)) hd_X1_chanceOfUnit k_642 k_639 k_640 k_641 k_47 ⟨Nat.le_of_ble_eq_true rfl, Nat.le_of_ble_eq_true rfl⟩ ⟨Nat.le_of_ble_eq_true rfl, Nat.le_of_ble_eq_true rfl⟩ hP hK [6, 7] rfl 0 rfl rfl rfl hl.1 rfl (Nat.le_of_ble_eq_true rfl) d_X8_lost_52 (fun r_23 hr_24 => ?_)
      subst hr_24
      exact hret _ _ _ _ [] _ _ _ (hP.sub (ws' := []) [] rfl) (hD.sub (ws' := []) [] (by decide) rfl) hS (Nat.le_of_ble_eq_true rfl) (Nat.le_of_ble_eq_true rfl) d_X8_lost_55 (rfl) ⟨by unfold cu_slo; rw [if_neg c_1, if_neg (Int32.not_lt.mpr c_2)], rfl⟩
    · skip
      refine lv_bipush (v := (-2)) hx hb d_X8_lost_10 (by decide) ?_
      exact hret _ _ _ _ [] _ _ _ (hP.sub (ws' := []) [] rfl) (hD.sub (ws' := []) [] (by decide) rfl) hS (Nat.le_of_ble_eq_true rfl) (Nat.le_of_ble_eq_true rfl) d_X8_lost_12 (rfl) ⟨by unfold cu_slo; rw [if_neg c_1, if_pos (Int32.not_le.mp c_2)], rfl⟩
set_option maxHeartbeats 4000000 in
set_option maxRecDepth 100000 in
theorem c_X3_bestUnit (l : Launch) (D : va_G) (cI cZ cQ : ClassId) (h w y a u : Nat) (rt lw : Int32) : cu_R l D (cu_TY cI cZ cQ) yX3_bestUnit cX3_bestUnit 5 .int 1 24 [.ref h] [(h, .inr (2, [.ref w, .ref y, .ref a, .ref u, .int 0, .int 0, .int rt, .int lw]))] (fun r => r = 999) := by
  refine cu_R.intro (by decide) (Nat.le_of_ble_eq_true rfl) ?_
  intro p e s m args below meth c Q ls S hret hP hK hl
  obtain ⟨hx, hb, hml, hown, hg⟩ := S
  have hown : s.vm.findClass RX3 = some m.cls := hown
  have hl : lv_has ls 5 [(0, .ref h)] := hl
  refine lv_sipush (v := 999) hx hb d_X3_bestUnit_0 (by decide) ?_
  refine lv_istore_n (lv' := [(1, .int 999), (0, .ref h)]) hx hb d_X3_bestUnit_3 rfl hl (by decide) rfl (fun ls hl => ?_)
  refine lv_ldc (v := 53248) hx hb hown (hg _ k_562) d_X3_bestUnit_4 ?_
  refine lv_istore_n (lv' := [(2, .int 53248), (1, .int 999), (0, .ref h)]) hx hb d_X3_bestUnit_6 rfl hl (by decide) rfl (fun ls hl => ?_)
  refine lv_sipush (v := 999) hx hb d_X3_bestUnit_7 (by decide) ?_
  refine lv_istore_n (lv' := [(3, .int 999), (2, .int 53248), (1, .int 999), (0, .ref h)]) hx hb d_X3_bestUnit_10 rfl hl (by decide) rfl (fun ls hl => ?_)
  refine lv_iload_n hx hb d_X3_bestUnit_11 rfl (lv_at hl 0 rfl) ?_
  refine lv_iconst (v := 1) hx hb d_X3_bestUnit_12 (by decide) ?_
  refine lv_icmp_lt (tgt := 41) hx hb d_X3_bestUnit_13 (by decide) (fun c_1 => absurd c_1 (by decide +kernel)) (fun _ => ?_)
  refine lv_aload_n hx hb d_X3_bestUnit_16 rfl (lv_at hl 3 rfl) ?_
  refine lv_iload_n hx hb d_X3_bestUnit_17 rfl (lv_at hl 0 rfl) ?_
  refine lv_iload_n hx hb d_X3_bestUnit_18 rfl (lv_at hl 1 rfl) ?_
  refine cu_VR (wc := [(h, .inr (2, [.ref w, .ref y, .ref a, .ref u, .int 0, .int 0, .int rt, .int lw]))]) (rest := []) [.int 999, .int 53248] ⟨hx, hb, hml, hown, hg⟩ (c_X3_lackOf l D cI cZ cQ h w y a u rt lw 999 53248) hd_X3_lackOf k_566 k_563 k_565 k_17 k_45 ⟨Nat.le_of_ble_eq_true rfl, Nat.le_of_ble_eq_true rfl⟩ ⟨Nat.le_of_ble_eq_true rfl, Nat.le_of_ble_eq_true rfl⟩ hP hK [0] rfl 0 rfl rfl rfl hl.1 rfl (Nat.le_of_ble_eq_true rfl) d_X3_bestUnit_19 (fun r_2 hr_3 => ?_)
  subst hr_3
  refine lv_istore (lv' := [(4, .int 0), (3, .int 999), (2, .int 53248), (1, .int 999), (0, .ref h)]) hx hb d_X3_bestUnit_22 hl (by decide) rfl (fun ls hl => ?_)
  refine lv_iload hx hb d_X3_bestUnit_24 (lv_at hl 0 rfl) ?_
  refine lv_iload_n hx hb d_X3_bestUnit_26 rfl (lv_at hl 2 rfl) ?_
  refine lv_icmp_ge (tgt := 35) hx hb d_X3_bestUnit_27 (by decide) (fun c_4 => absurd c_4 (by decide +kernel)) (fun _ => ?_)
  refine lv_iload hx hb d_X3_bestUnit_30 (lv_at hl 0 rfl) ?_
  refine lv_istore_n (lv' := [(2, .int 0), (4, .int 0), (3, .int 999), (1, .int 999), (0, .ref h)]) hx hb d_X3_bestUnit_32 rfl hl (by decide) rfl (fun ls hl => ?_)
  refine lv_iload_n hx hb d_X3_bestUnit_33 rfl (lv_at hl 2 rfl) ?_
  refine lv_istore_n (lv' := [(1, .int 999), (2, .int 0), (4, .int 0), (3, .int 999), (0, .ref h)]) hx hb d_X3_bestUnit_34 rfl hl (by decide) rfl (fun ls hl => ?_)
  refine lv_iinc (v := 998) (lv' := [(3, .int 998), (1, .int 999), (2, .int 0), (4, .int 0), (0, .ref h)]) hx hb d_X3_bestUnit_35 hl (k := 3) rfl (by decide +kernel) (by decide) rfl (fun ls hl => ?_)
  refine lv_goto (tgt := 11) hx hb d_X3_bestUnit_38 (by decide) ?_
  have key_5 : ∀ (n_7 j_6 : Nat) (hj_9 : j_6 = n_7)  (hi_10 : j_6 ≤ 998) (ls : Array Slot) (hl : lv_has ls 5 [(3, .int (nI j_6)), (1, .int 999), (2, .int 0), (4, .int 0), (0, .ref h)]), W p l e (cu_rm 1 24 0 0) s m args below meth c s.heap [] 0 0 Q (F0 m 11 ls []) := by
    intro n_7
    induction n_7 with
    | zero =>
      intro j_6 hj_9  hi_10 ls hl
      obtain rfl : 0 = j_6 := by omega
      have hl : lv_has ls 5 [(3, .int 0), (1, .int 999), (2, .int 0), (4, .int 0), (0, .ref h)] := hl
      refine lv_iload_n hx hb d_X3_bestUnit_11 rfl (lv_at hl 0 rfl) ?_
      refine lv_iconst (v := 1) hx hb d_X3_bestUnit_12 (by decide) ?_
      refine lv_icmp_lt (tgt := 41) hx hb d_X3_bestUnit_13 (by decide) (fun _ => ?_) (fun c_11 => absurd (by decide +kernel) c_11)
      refine lv_iload_n hx hb d_X3_bestUnit_41 rfl (lv_at hl 1 rfl) ?_
      exact hret _ _ _ d_X3_bestUnit_42 (rfl) (rfl)
    | succ n_7 ih_8 =>
      intro j_6 hj_9  hi_10 ls hl
      subst hj_9
      refine lv_iload_n hx hb d_X3_bestUnit_11 rfl (lv_at hl 0 rfl) ?_
      refine lv_iconst (v := 1) hx hb d_X3_bestUnit_12 (by decide) ?_
      refine lv_icmp_lt (tgt := 41) hx hb d_X3_bestUnit_13 (by decide) (fun c_12 => absurd c_12 (mt (nI_ltI (a := (n_7 + 1)) (b := 1) (by omega) (by omega)).mp (by omega))) (fun _ => ?_)
      refine lv_aload_n hx hb d_X3_bestUnit_16 rfl (lv_at hl 4 rfl) ?_
      refine lv_iload_n hx hb d_X3_bestUnit_17 rfl (lv_at hl 0 rfl) ?_
      refine lv_iload_n hx hb d_X3_bestUnit_18 rfl (lv_at hl 2 rfl) ?_
      refine cu_VR (wc := [(h, .inr (2, [.ref w, .ref y, .ref a, .ref u, .int 0, .int 0, .int rt, .int lw]))]) (rest := []) [.int (nI (n_7 + 1)), .int 0] ⟨hx, hb, hml, hown, hg⟩ (c_X3_lackOf l D cI cZ cQ h w y a u rt lw (nI (n_7 + 1)) 0) hd_X3_lackOf k_566 k_563 k_565 k_17 k_45 ⟨Nat.le_of_ble_eq_true rfl, Nat.le_of_ble_eq_true rfl⟩ ⟨Nat.le_of_ble_eq_true rfl, Nat.le_of_ble_eq_true rfl⟩ hP hK [0] rfl 0 rfl rfl rfl hl.1 rfl (Nat.le_of_ble_eq_true rfl) d_X3_bestUnit_19 (fun r_13 hr_14 => ?_)
      subst hr_14
      refine lv_istore (lv' := [(4, .int 0), (3, .int (nI (n_7 + 1))), (1, .int 999), (2, .int 0), (0, .ref h)]) hx hb d_X3_bestUnit_22 hl (by decide) rfl (fun ls hl => ?_)
      refine lv_iload hx hb d_X3_bestUnit_24 (lv_at hl 0 rfl) ?_
      refine lv_iload_n hx hb d_X3_bestUnit_26 rfl (lv_at hl 3 rfl) ?_
      refine lv_icmp_ge (tgt := 35) hx hb d_X3_bestUnit_27 (by decide) (fun _ => ?_) (fun c_15 => absurd (by decide +kernel) c_15)
      refine lv_iinc (v := nI n_7) (lv' := [(3, .int (nI n_7)), (4, .int 0), (1, .int 999), (2, .int 0), (0, .ref h)]) hx hb d_X3_bestUnit_35 hl (k := 1) rfl (cu_dec n_7) (by decide) rfl (fun ls hl => ?_)
      refine lv_goto (tgt := 11) hx hb d_X3_bestUnit_38 (by decide) ?_
      exact ih_8 n_7 (by first | rfl | omega)  (by omega) _ (lv_sub hl [0, 2, 3, 1, 4] rfl)
  exact key_5 998 998 (by first | rfl | omega)  (Nat.le_refl _) _ (lv_sub hl [0, 1, 2, 3, 4] rfl)
end
