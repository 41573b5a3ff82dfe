section
-- ===== PART A: goes FIRST, ahead of the names: the tables' words, and 'selects' of the private methods out of them =====
/-- a private method of a class that the tables say can be made, by its rows of tables_1 -/
def lw_okq (q : MethodName × Nat) : Prop := (q.1.cls ≠ "java/lang/invoke/MethodHandle" ∧ q.1.cls ≠ "java/lang/invoke/VarHandle") ∧ Cond.instantiable q.1.cls q.2 ∈ tables_1 ∧ Cond.privateMethod q.1 ∈ tables_1 ∧ Cond.instanceMethod q.1 ∈ tables_1
theorem lw_p0 : lw_okq (⟨"LineSorter$Places", "fieldStart", "(III)I"⟩, 2) := ⟨⟨by decide +kernel, by decide +kernel⟩, List.mem_of_getElem? (i := 54) (by decide +kernel), List.mem_of_getElem? (i := 312) (by decide +kernel), List.mem_of_getElem? (i := 313) (by decide +kernel)⟩
theorem lw_p1 : lw_okq (⟨"LineSorter$Places", "fieldStop", "(II)I"⟩, 2) := ⟨⟨by decide +kernel, by decide +kernel⟩, List.mem_of_getElem? (i := 54) (by decide +kernel), List.mem_of_getElem? (i := 316) (by decide +kernel), List.mem_of_getElem? (i := 317) (by decide +kernel)⟩
theorem lw_p2 : lw_okq (⟨"LineSorter$Places", "passBlanksOfField", "(II)I"⟩, 2) := ⟨⟨by decide +kernel, by decide +kernel⟩, List.mem_of_getElem? (i := 54) (by decide +kernel), List.mem_of_getElem? (i := 320) (by decide +kernel), List.mem_of_getElem? (i := 321) (by decide +kernel)⟩
theorem lw_p3 : lw_okq (⟨"LineSorter$Order", "comparedAsNumbers", "(IIII)I"⟩, 10) := ⟨⟨by decide +kernel, by decide +kernel⟩, List.mem_of_getElem? (i := 68) (by decide +kernel), List.mem_of_getElem? (i := 339) (by decide +kernel), List.mem_of_getElem? (i := 340) (by decide +kernel)⟩
theorem lw_p4 : lw_okq (⟨"java/lang/Throwable", "fillInStackTrace", "(I)Ljava/lang/Throwable;"⟩, 6) := ⟨⟨by decide +kernel, by decide +kernel⟩, List.mem_of_getElem? (i := 435) (by decide +kernel), List.mem_of_getElem? (i := 433) (by decide +kernel), List.mem_of_getElem? (i := 434) (by decide +kernel)⟩
theorem lw_p5 : lw_okq (⟨"LineSorter$Text", "makeRoom", "(I)V"⟩, 4) := ⟨⟨by decide +kernel, by decide +kernel⟩, List.mem_of_getElem? (i := 31) (by decide +kernel), List.mem_of_getElem? (i := 468) (by decide +kernel), List.mem_of_getElem? (i := 469) (by decide +kernel)⟩
theorem lw_p6 : lw_okq (⟨"LineSorter", "isLine", "(I)Z"⟩, 10) := ⟨⟨by decide +kernel, by decide +kernel⟩, List.mem_of_getElem? (i := 23) (by decide +kernel), List.mem_of_getElem? (i := 585) (by decide +kernel), List.mem_of_getElem? (i := 586) (by decide +kernel)⟩
theorem lw_p7 : lw_okq (⟨"LineSorter$Heap", "sinkFromTop", "(I)V"⟩, 2) := ⟨⟨by decide +kernel, by decide +kernel⟩, List.mem_of_getElem? (i := 180) (by decide +kernel), List.mem_of_getElem? (i := 654) (by decide +kernel), List.mem_of_getElem? (i := 655) (by decide +kernel)⟩
theorem lw_p8 : lw_okq (⟨"LineSorter$Runs", "addLineToRun", "(I)V"⟩, 8) := ⟨⟨by decide +kernel, by decide +kernel⟩, List.mem_of_getElem? (i := 193) (by decide +kernel), List.mem_of_getElem? (i := 658) (by decide +kernel), List.mem_of_getElem? (i := 659) (by decide +kernel)⟩
theorem lw_p9 : lw_okq (⟨"LineSorter", "addToResult", "(I)V"⟩, 10) := ⟨⟨by decide +kernel, by decide +kernel⟩, List.mem_of_getElem? (i := 23) (by decide +kernel), List.mem_of_getElem? (i := 671) (by decide +kernel), List.mem_of_getElem? (i := 672) (by decide +kernel)⟩
theorem lw_p10 : lw_okq (⟨"LineSorterModel", "fails", "(ZI)Z"⟩, 32) := ⟨⟨by decide +kernel, by decide +kernel⟩, List.mem_of_getElem? (i := 695) (by decide +kernel), List.mem_of_getElem? (i := 806) (by decide +kernel), List.mem_of_getElem? (i := 807) (by decide +kernel)⟩
theorem lw_p11 : lw_okq (⟨"LineSorterModel", "change", "(I)V"⟩, 32) := ⟨⟨by decide +kernel, by decide +kernel⟩, List.mem_of_getElem? (i := 695) (by decide +kernel), List.mem_of_getElem? (i := 810) (by decide +kernel), List.mem_of_getElem? (i := 811) (by decide +kernel)⟩
theorem lw_p12 : lw_okq (⟨"LineSorterModel", "findLines", "()V"⟩, 32) := ⟨⟨by decide +kernel, by decide +kernel⟩, List.mem_of_getElem? (i := 695) (by decide +kernel), List.mem_of_getElem? (i := 845) (by decide +kernel), List.mem_of_getElem? (i := 846) (by decide +kernel)⟩
theorem lw_p13 : lw_okq (⟨"LineSorterModel", "keysThere", "()I"⟩, 32) := ⟨⟨by decide +kernel, by decide +kernel⟩, List.mem_of_getElem? (i := 695) (by decide +kernel), List.mem_of_getElem? (i := 853) (by decide +kernel), List.mem_of_getElem? (i := 854) (by decide +kernel)⟩
theorem lw_p14 : lw_okq (⟨"LineSorterModel", "keyEnd", "(II)I"⟩, 32) := ⟨⟨by decide +kernel, by decide +kernel⟩, List.mem_of_getElem? (i := 695) (by decide +kernel), List.mem_of_getElem? (i := 857) (by decide +kernel), List.mem_of_getElem? (i := 858) (by decide +kernel)⟩
theorem lw_p15 : lw_okq (⟨"LineSorterModel", "endOf", "(I)I"⟩, 32) := ⟨⟨by decide +kernel, by decide +kernel⟩, List.mem_of_getElem? (i := 695) (by decide +kernel), List.mem_of_getElem? (i := 861) (by decide +kernel), List.mem_of_getElem? (i := 862) (by decide +kernel)⟩
def lw_privs_1 : List (MethodName × Nat) := [(⟨"LineSorter$Places", "fieldStart", "(III)I"⟩, 2), (⟨"LineSorter$Places", "fieldStop", "(II)I"⟩, 2), (⟨"LineSorter$Places", "passBlanksOfField", "(II)I"⟩, 2), (⟨"LineSorter$Order", "comparedAsNumbers", "(IIII)I"⟩, 10), (⟨"java/lang/Throwable", "fillInStackTrace", "(I)Ljava/lang/Throwable;"⟩, 6), (⟨"LineSorter$Text", "makeRoom", "(I)V"⟩, 4), (⟨"LineSorter", "isLine", "(I)Z"⟩, 10), (⟨"LineSorter$Heap", "sinkFromTop", "(I)V"⟩, 2), (⟨"LineSorter$Runs", "addLineToRun", "(I)V"⟩, 8), (⟨"LineSorter", "addToResult", "(I)V"⟩, 10), (⟨"LineSorterModel", "fails", "(ZI)Z"⟩, 32), (⟨"LineSorterModel", "change", "(I)V"⟩, 32), (⟨"LineSorterModel", "findLines", "()V"⟩, 32), (⟨"LineSorterModel", "keysThere", "()I"⟩, 32), (⟨"LineSorterModel", "keyEnd", "(II)I"⟩, 32), (⟨"LineSorterModel", "endOf", "(I)I"⟩, 32)]
theorem lw_r1 : ∀ q ∈ lw_privs_1, lw_okq q := List.forall_mem_cons.mpr ⟨lw_p0, List.forall_mem_cons.mpr ⟨lw_p1, List.forall_mem_cons.mpr ⟨lw_p2, List.forall_mem_cons.mpr ⟨lw_p3, List.forall_mem_cons.mpr ⟨lw_p4, List.forall_mem_cons.mpr ⟨lw_p5, List.forall_mem_cons.mpr ⟨lw_p6, List.forall_mem_cons.mpr ⟨lw_p7, List.forall_mem_cons.mpr ⟨lw_p8, List.forall_mem_cons.mpr ⟨lw_p9, List.forall_mem_cons.mpr ⟨lw_p10, List.forall_mem_cons.mpr ⟨lw_p11, List.forall_mem_cons.mpr ⟨lw_p12, List.forall_mem_cons.mpr ⟨lw_p13, List.forall_mem_cons.mpr ⟨lw_p14, List.forall_mem_cons.mpr ⟨lw_p15, fun _ h => absurd h List.not_mem_nil⟩⟩⟩⟩⟩⟩⟩⟩⟩⟩⟩⟩⟩⟩⟩⟩
theorem lw_p16 : lw_okq (⟨"LineSorterModel", "keyOf", "(II)I"⟩, 32) := ⟨⟨by decide +kernel, by decide +kernel⟩, List.mem_of_getElem? (i := 695) (by decide +kernel), List.mem_of_getElem? (i := 865) (by decide +kernel), List.mem_of_getElem? (i := 866) (by decide +kernel)⟩
theorem lw_p17 : lw_okq (⟨"LineSorterModel", "find", "(II)Z"⟩, 32) := ⟨⟨by decide +kernel, by decide +kernel⟩, List.mem_of_getElem? (i := 695) (by decide +kernel), List.mem_of_getElem? (i := 869) (by decide +kernel), List.mem_of_getElem? (i := 870) (by decide +kernel)⟩
theorem lw_p18 : lw_okq (⟨"LineSorterModel", "startOf", "(I)I"⟩, 32) := ⟨⟨by decide +kernel, by decide +kernel⟩, List.mem_of_getElem? (i := 695) (by decide +kernel), List.mem_of_getElem? (i := 873) (by decide +kernel), List.mem_of_getElem? (i := 874) (by decide +kernel)⟩
theorem lw_p19 : lw_okq (⟨"LineSorterModel", "isBlank", "(I)Z"⟩, 32) := ⟨⟨by decide +kernel, by decide +kernel⟩, List.mem_of_getElem? (i := 695) (by decide +kernel), List.mem_of_getElem? (i := 877) (by decide +kernel), List.mem_of_getElem? (i := 878) (by decide +kernel)⟩
theorem lw_p20 : lw_okq (⟨"LineSorterModel", "begin", "(IZ)I"⟩, 32) := ⟨⟨by decide +kernel, by decide +kernel⟩, List.mem_of_getElem? (i := 695) (by decide +kernel), List.mem_of_getElem? (i := 881) (by decide +kernel), List.mem_of_getElem? (i := 882) (by decide +kernel)⟩
theorem lw_p21 : lw_okq (⟨"LineSorterModel", "keyBegin", "(II)I"⟩, 32) := ⟨⟨by decide +kernel, by decide +kernel⟩, List.mem_of_getElem? (i := 695) (by decide +kernel), List.mem_of_getElem? (i := 885) (by decide +kernel), List.mem_of_getElem? (i := 886) (by decide +kernel)⟩
theorem lw_p22 : lw_okq (⟨"LineSorterModel", "byKeys", "(II)I"⟩, 32) := ⟨⟨by decide +kernel, by decide +kernel⟩, List.mem_of_getElem? (i := 695) (by decide +kernel), List.mem_of_getElem? (i := 893) (by decide +kernel), List.mem_of_getElem? (i := 894) (by decide +kernel)⟩
theorem lw_p23 : lw_okq (⟨"LineSorterModel", "from", "(II)I"⟩, 32) := ⟨⟨by decide +kernel, by decide +kernel⟩, List.mem_of_getElem? (i := 695) (by decide +kernel), List.mem_of_getElem? (i := 897) (by decide +kernel), List.mem_of_getElem? (i := 898) (by decide +kernel)⟩
theorem lw_p24 : lw_okq (⟨"LineSorterModel", "to", "(II)I"⟩, 32) := ⟨⟨by decide +kernel, by decide +kernel⟩, List.mem_of_getElem? (i := 695) (by decide +kernel), List.mem_of_getElem? (i := 901) (by decide +kernel), List.mem_of_getElem? (i := 902) (by decide +kernel)⟩
theorem lw_p25 : lw_okq (⟨"LineSorterModel", "numbers", "(IIII)I"⟩, 32) := ⟨⟨by decide +kernel, by decide +kernel⟩, List.mem_of_getElem? (i := 695) (by decide +kernel), List.mem_of_getElem? (i := 905) (by decide +kernel), List.mem_of_getElem? (i := 906) (by decide +kernel)⟩
theorem lw_p26 : lw_okq (⟨"LineSorterModel", "sign", "(II)I"⟩, 32) := ⟨⟨by decide +kernel, by decide +kernel⟩, List.mem_of_getElem? (i := 695) (by decide +kernel), List.mem_of_getElem? (i := 909) (by decide +kernel), List.mem_of_getElem? (i := 910) (by decide +kernel)⟩
theorem lw_p27 : lw_okq (⟨"LineSorterModel", "wholeAt", "(II)I"⟩, 32) := ⟨⟨by decide +kernel, by decide +kernel⟩, List.mem_of_getElem? (i := 695) (by decide +kernel), List.mem_of_getElem? (i := 913) (by decide +kernel), List.mem_of_getElem? (i := 914) (by decide +kernel)⟩
theorem lw_p28 : lw_okq (⟨"LineSorterModel", "behindBlanks", "(II)I"⟩, 32) := ⟨⟨by decide +kernel, by decide +kernel⟩, List.mem_of_getElem? (i := 695) (by decide +kernel), List.mem_of_getElem? (i := 917) (by decide +kernel), List.mem_of_getElem? (i := 918) (by decide +kernel)⟩
theorem lw_p29 : lw_okq (⟨"LineSorterModel", "isMinus", "(II)Z"⟩, 32) := ⟨⟨by decide +kernel, by decide +kernel⟩, List.mem_of_getElem? (i := 695) (by decide +kernel), List.mem_of_getElem? (i := 921) (by decide +kernel), List.mem_of_getElem? (i := 922) (by decide +kernel)⟩
theorem lw_p30 : lw_okq (⟨"LineSorterModel", "isZero", "(II)Z"⟩, 32) := ⟨⟨by decide +kernel, by decide +kernel⟩, List.mem_of_getElem? (i := 695) (by decide +kernel), List.mem_of_getElem? (i := 925) (by decide +kernel), List.mem_of_getElem? (i := 926) (by decide +kernel)⟩
theorem lw_p31 : lw_okq (⟨"LineSorterModel", "isDigit", "(II)Z"⟩, 32) := ⟨⟨by decide +kernel, by decide +kernel⟩, List.mem_of_getElem? (i := 695) (by decide +kernel), List.mem_of_getElem? (i := 929) (by decide +kernel), List.mem_of_getElem? (i := 930) (by decide +kernel)⟩
def lw_privs_2 : List (MethodName × Nat) := [(⟨"LineSorterModel", "keyOf", "(II)I"⟩, 32), (⟨"LineSorterModel", "find", "(II)Z"⟩, 32), (⟨"LineSorterModel", "startOf", "(I)I"⟩, 32), (⟨"LineSorterModel", "isBlank", "(I)Z"⟩, 32), (⟨"LineSorterModel", "begin", "(IZ)I"⟩, 32), (⟨"LineSorterModel", "keyBegin", "(II)I"⟩, 32), (⟨"LineSorterModel", "byKeys", "(II)I"⟩, 32), (⟨"LineSorterModel", "from", "(II)I"⟩, 32), (⟨"LineSorterModel", "to", "(II)I"⟩, 32), (⟨"LineSorterModel", "numbers", "(IIII)I"⟩, 32), (⟨"LineSorterModel", "sign", "(II)I"⟩, 32), (⟨"LineSorterModel", "wholeAt", "(II)I"⟩, 32), (⟨"LineSorterModel", "behindBlanks", "(II)I"⟩, 32), (⟨"LineSorterModel", "isMinus", "(II)Z"⟩, 32), (⟨"LineSorterModel", "isZero", "(II)Z"⟩, 32), (⟨"LineSorterModel", "isDigit", "(II)Z"⟩, 32)]
theorem lw_r2 : ∀ q ∈ lw_privs_2, lw_okq q := List.forall_mem_cons.mpr ⟨lw_p16, List.forall_mem_cons.mpr ⟨lw_p17, List.forall_mem_cons.mpr ⟨lw_p18, List.forall_mem_cons.mpr ⟨lw_p19, List.forall_mem_cons.mpr ⟨lw_p20, List.forall_mem_cons.mpr ⟨lw_p21, List.forall_mem_cons.mpr ⟨lw_p22, List.forall_mem_cons.mpr ⟨lw_p23, List.forall_mem_cons.mpr ⟨lw_p24, List.forall_mem_cons.mpr ⟨lw_p25, List.forall_mem_cons.mpr ⟨lw_p26, List.forall_mem_cons.mpr ⟨lw_p27, List.forall_mem_cons.mpr ⟨lw_p28, List.forall_mem_cons.mpr ⟨lw_p29, List.forall_mem_cons.mpr ⟨lw_p30, List.forall_mem_cons.mpr ⟨lw_p31, fun _ h => absurd h List.not_mem_nil⟩⟩⟩⟩⟩⟩⟩⟩⟩⟩⟩⟩⟩⟩⟩⟩
theorem lw_p32 : lw_okq (⟨"LineSorterModel", "partAt", "(II)I"⟩, 32) := ⟨⟨by decide +kernel, by decide +kernel⟩, List.mem_of_getElem? (i := 695) (by decide +kernel), List.mem_of_getElem? (i := 933) (by decide +kernel), List.mem_of_getElem? (i := 934) (by decide +kernel)⟩
theorem lw_p33 : lw_okq (⟨"LineSorterModel", "behindDigits", "(II)I"⟩, 32) := ⟨⟨by decide +kernel, by decide +kernel⟩, List.mem_of_getElem? (i := 695) (by decide +kernel), List.mem_of_getElem? (i := 937) (by decide +kernel), List.mem_of_getElem? (i := 938) (by decide +kernel)⟩
theorem lw_p34 : lw_okq (⟨"LineSorterModel", "sizes", "(IIII)I"⟩, 32) := ⟨⟨by decide +kernel, by decide +kernel⟩, List.mem_of_getElem? (i := 695) (by decide +kernel), List.mem_of_getElem? (i := 941) (by decide +kernel), List.mem_of_getElem? (i := 942) (by decide +kernel)⟩
theorem lw_p35 : lw_okq (⟨"LineSorterModel", "bytes", "(IIIII)I"⟩, 32) := ⟨⟨by decide +kernel, by decide +kernel⟩, List.mem_of_getElem? (i := 695) (by decide +kernel), List.mem_of_getElem? (i := 945) (by decide +kernel), List.mem_of_getElem? (i := 946) (by decide +kernel)⟩
theorem lw_p36 : lw_okq (⟨"LineSorterModel", "counts", "(II)Z"⟩, 32) := ⟨⟨by decide +kernel, by decide +kernel⟩, List.mem_of_getElem? (i := 695) (by decide +kernel), List.mem_of_getElem? (i := 949) (by decide +kernel), List.mem_of_getElem? (i := 950) (by decide +kernel)⟩
theorem lw_p37 : lw_okq (⟨"LineSorterModel", "folded", "(II)I"⟩, 32) := ⟨⟨by decide +kernel, by decide +kernel⟩, List.mem_of_getElem? (i := 695) (by decide +kernel), List.mem_of_getElem? (i := 953) (by decide +kernel), List.mem_of_getElem? (i := 954) (by decide +kernel)⟩
theorem lw_p38 : lw_okq (⟨"LineSorterModel", "hold", "()V"⟩, 32) := ⟨⟨by decide +kernel, by decide +kernel⟩, List.mem_of_getElem? (i := 695) (by decide +kernel), List.mem_of_getElem? (i := 961) (by decide +kernel), List.mem_of_getElem? (i := 962) (by decide +kernel)⟩
theorem lw_p39 : lw_okq (⟨"LineSorterModel", "makeRuns", "()V"⟩, 32) := ⟨⟨by decide +kernel, by decide +kernel⟩, List.mem_of_getElem? (i := 695) (by decide +kernel), List.mem_of_getElem? (i := 965) (by decide +kernel), List.mem_of_getElem? (i := 966) (by decide +kernel)⟩
theorem lw_p40 : lw_okq (⟨"LineSorterModel", "isBefore", "(II)Z"⟩, 32) := ⟨⟨by decide +kernel, by decide +kernel⟩, List.mem_of_getElem? (i := 695) (by decide +kernel), List.mem_of_getElem? (i := 969) (by decide +kernel), List.mem_of_getElem? (i := 970) (by decide +kernel)⟩
theorem lw_p41 : lw_okq (⟨"LineSorterModel", "byAll", "(II)I"⟩, 32) := ⟨⟨by decide +kernel, by decide +kernel⟩, List.mem_of_getElem? (i := 695) (by decide +kernel), List.mem_of_getElem? (i := 973) (by decide +kernel), List.mem_of_getElem? (i := 974) (by decide +kernel)⟩
theorem lw_p42 : lw_okq (⟨"LineSorterModel", "mergeFirst", "()V"⟩, 32) := ⟨⟨by decide +kernel, by decide +kernel⟩, List.mem_of_getElem? (i := 695) (by decide +kernel), List.mem_of_getElem? (i := 977) (by decide +kernel), List.mem_of_getElem? (i := 978) (by decide +kernel)⟩
theorem lw_p43 : lw_okq (⟨"LineSorterModel", "headOf", "(I)I"⟩, 32) := ⟨⟨by decide +kernel, by decide +kernel⟩, List.mem_of_getElem? (i := 695) (by decide +kernel), List.mem_of_getElem? (i := 981) (by decide +kernel), List.mem_of_getElem? (i := 982) (by decide +kernel)⟩
def lw_privs_3 : List (MethodName × Nat) := [(⟨"LineSorterModel", "partAt", "(II)I"⟩, 32), (⟨"LineSorterModel", "behindDigits", "(II)I"⟩, 32), (⟨"LineSorterModel", "sizes", "(IIII)I"⟩, 32), (⟨"LineSorterModel", "bytes", "(IIIII)I"⟩, 32), (⟨"LineSorterModel", "counts", "(II)Z"⟩, 32), (⟨"LineSorterModel", "folded", "(II)I"⟩, 32), (⟨"LineSorterModel", "hold", "()V"⟩, 32), (⟨"LineSorterModel", "makeRuns", "()V"⟩, 32), (⟨"LineSorterModel", "isBefore", "(II)Z"⟩, 32), (⟨"LineSorterModel", "byAll", "(II)I"⟩, 32), (⟨"LineSorterModel", "mergeFirst", "()V"⟩, 32), (⟨"LineSorterModel", "headOf", "(I)I"⟩, 32)]
theorem lw_r3 : ∀ q ∈ lw_privs_3, lw_okq q := List.forall_mem_cons.mpr ⟨lw_p32, List.forall_mem_cons.mpr ⟨lw_p33, List.forall_mem_cons.mpr ⟨lw_p34, List.forall_mem_cons.mpr ⟨lw_p35, List.forall_mem_cons.mpr ⟨lw_p36, List.forall_mem_cons.mpr ⟨lw_p37, List.forall_mem_cons.mpr ⟨lw_p38, List.forall_mem_cons.mpr ⟨lw_p39, List.forall_mem_cons.mpr ⟨lw_p40, List.forall_mem_cons.mpr ⟨lw_p41, List.forall_mem_cons.mpr ⟨lw_p42, List.forall_mem_cons.mpr ⟨lw_p43, fun _ h => absurd h List.not_mem_nil⟩⟩⟩⟩⟩⟩⟩⟩⟩⟩⟩⟩
def lw_privs : List (MethodName × Nat) := lw_privs_1 ++ (lw_privs_2 ++ (lw_privs_3))
def lw_tbl : List Cond := k2_sels lw_privs ++ tables_1
theorem lw_privs_ok : ∀ q ∈ lw_privs, lw_okq q := by
  show ∀ q ∈ lw_privs_1 ++ (lw_privs_2 ++ (lw_privs_3)), lw_okq q
  exact List.forall_mem_append.mpr ⟨lw_r1, List.forall_mem_append.mpr ⟨lw_r2, lw_r3⟩⟩
end
section
abbrev XM : Type := MethodName × ByteArray × Nat × Option FieldType
abbrev cn_S : String := "LineSorter"
abbrev cn_T : String := "LineSorter$Text"
abbrev cn_P : String := "LineSorter$Places"
abbrev cn_O : String := "LineSorter$Order"
abbrev cn_K : String := "LineSorter$Key"
abbrev cn_N : String := "LineSorter$Numeral"
abbrev cn_R : String := "LineSorter$Ranking"
abbrev cn_H : String := "LineSorter$Heap"
abbrev cn_U : String := "LineSorter$Runs"
abbrev cn_M : String := "LineSorterModel"
abbrev cn_L : String := "LineSorterLaw"
abbrev b_S_init : ByteArray := prog_1_method_1_code
abbrev y_S_init : MethodName := ⟨"LineSorter", "<init>", "()V"⟩
abbrev m_S_init : XM := (y_S_init, b_S_init, 1, none)
abbrev b_S_feed : ByteArray := prog_1_method_2_code
abbrev y_S_feed : MethodName := ⟨"LineSorter", "feed", "(IIIII)I"⟩
abbrev m_S_feed : XM := (y_S_feed, b_S_feed, 6, (some .int))
abbrev b_S_end : ByteArray := prog_1_method_3_code
abbrev y_S_end : MethodName := ⟨"LineSorter", "end", "(I)V"⟩
abbrev m_S_end : XM := (y_S_end, b_S_end, 2, none)
abbrev b_S_ways : ByteArray := prog_1_method_4_code
abbrev y_S_ways : MethodName := ⟨"LineSorter", "ways", "(IZZ)V"⟩
abbrev m_S_ways : XM := (y_S_ways, b_S_ways, 4, none)
abbrev b_S_separator : ByteArray := prog_1_method_5_code
abbrev y_S_separator : MethodName := ⟨"LineSorter", "separator", "(I)V"⟩
abbrev m_S_separator : XM := (y_S_separator, b_S_separator, 2, none)
abbrev b_S_key : ByteArray := prog_1_method_6_code
abbrev y_S_key : MethodName := ⟨"LineSorter", "key", "(IIIII)I"⟩
abbrev m_S_key : XM := (y_S_key, b_S_key, 8, (some .int))
abbrev b_S_keyless : ByteArray := prog_1_method_7_code
abbrev y_S_keyless : MethodName := ⟨"LineSorter", "keyless", "()I"⟩
abbrev m_S_keyless : XM := (y_S_keyless, b_S_keyless, 2, (some .int))
abbrev b_S_memory : ByteArray := prog_1_method_8_code
abbrev y_S_memory : MethodName := ⟨"LineSorter", "memory", "(II)V"⟩
abbrev m_S_memory : XM := (y_S_memory, b_S_memory, 3, none)
abbrev b_S_lines : ByteArray := prog_1_method_9_code
abbrev y_S_lines : MethodName := ⟨"LineSorter", "lines", "()I"⟩
abbrev m_S_lines : XM := (y_S_lines, b_S_lines, 1, (some .int))
abbrev b_S_place : ByteArray := prog_1_method_10_code
abbrev y_S_place : MethodName := ⟨"LineSorter", "place", "(IIZ)I"⟩
abbrev m_S_place : XM := (y_S_place, b_S_place, 7, (some .int))
abbrev b_S_compare : ByteArray := prog_1_method_11_code
abbrev y_S_compare : MethodName := ⟨"LineSorter", "compare", "(II)I"⟩
abbrev m_S_compare : XM := (y_S_compare, b_S_compare, 3, (some .int))
abbrev b_S_sort : ByteArray := prog_1_method_12_code
abbrev y_S_sort : MethodName := ⟨"LineSorter", "sort", "()I"⟩
abbrev m_S_sort : XM := (y_S_sort, b_S_sort, 3, (some .int))
abbrev b_S_check : ByteArray := prog_1_method_13_code
abbrev y_S_check : MethodName := ⟨"LineSorter", "check", "()I"⟩
abbrev m_S_check : XM := (y_S_check, b_S_check, 4, (some .int))
abbrev b_S_merge : ByteArray := prog_1_method_14_code
abbrev y_S_merge : MethodName := ⟨"LineSorter", "merge", "(I)I"⟩
abbrev m_S_merge : XM := (y_S_merge, b_S_merge, 6, (some .int))
abbrev b_S_result : ByteArray := prog_1_method_15_code
abbrev y_S_result : MethodName := ⟨"LineSorter", "result", "(I)I"⟩
abbrev m_S_result : XM := (y_S_result, b_S_result, 2, (some .int))
abbrev b_S_byteAt : ByteArray := prog_1_method_16_code
abbrev y_S_byteAt : MethodName := ⟨"LineSorter", "byteAt", "(II)I"⟩
abbrev m_S_byteAt : XM := (y_S_byteAt, b_S_byteAt, 5, (some .int))
abbrev b_S_run : ByteArray := prog_1_method_17_code
abbrev y_S_run : MethodName := ⟨"LineSorter", "run", "(I)I"⟩
abbrev m_S_run : XM := (y_S_run, b_S_run, 2, (some .int))
abbrev b_S_about : ByteArray := prog_1_method_18_code
abbrev y_S_about : MethodName := ⟨"LineSorter", "about", "(I)I"⟩
abbrev m_S_about : XM := (y_S_about, b_S_about, 2, (some .int))
abbrev b_S_isLine : ByteArray := prog_1_method_19_code
abbrev y_S_isLine : MethodName := ⟨"LineSorter", "isLine", "(I)Z"⟩
abbrev m_S_isLine : XM := (y_S_isLine, b_S_isLine, 2, (some .boolean))
abbrev b_S_addToResult : ByteArray := prog_1_method_20_code
abbrev y_S_addToResult : MethodName := ⟨"LineSorter", "addToResult", "(I)V"⟩
abbrev m_S_addToResult : XM := (y_S_addToResult, b_S_addToResult, 3, none)
abbrev b_S_isWithin : ByteArray := prog_1_method_21_code
abbrev y_S_isWithin : MethodName := ⟨"LineSorter", "isWithin", "(III)Z"⟩
abbrev m_S_isWithin : XM := (y_S_isWithin, b_S_isWithin, 3, (some .boolean))
abbrev b_M_init : ByteArray := prog_11_method_1_code
abbrev y_M_init : MethodName := ⟨"LineSorterModel", "<init>", "()V"⟩
abbrev m_M_init : XM := (y_M_init, b_M_init, 1, none)
abbrev b_M_thrown : ByteArray := prog_11_method_2_code
abbrev y_M_thrown : MethodName := ⟨"LineSorterModel", "thrown", "()I"⟩
abbrev m_M_thrown : XM := (y_M_thrown, b_M_thrown, 1, (some .int))
abbrev b_M_fails : ByteArray := prog_11_method_3_code
abbrev y_M_fails : MethodName := ⟨"LineSorterModel", "fails", "(ZI)Z"⟩
abbrev m_M_fails : XM := (y_M_fails, b_M_fails, 3, (some .boolean))
abbrev b_M_change : ByteArray := prog_11_method_4_code
abbrev y_M_change : MethodName := ⟨"LineSorterModel", "change", "(I)V"⟩
abbrev m_M_change : XM := (y_M_change, b_M_change, 2, none)
abbrev b_M_feed : ByteArray := prog_11_method_5_code
abbrev y_M_feed : MethodName := ⟨"LineSorterModel", "feed", "(IIIII)I"⟩
abbrev m_M_feed : XM := (y_M_feed, b_M_feed, 8, (some .int))
abbrev b_M_end : ByteArray := prog_11_method_6_code
abbrev y_M_end : MethodName := ⟨"LineSorterModel", "end", "(I)V"⟩
abbrev m_M_end : XM := (y_M_end, b_M_end, 2, none)
abbrev b_M_findLines : ByteArray := prog_11_method_7_code
abbrev y_M_findLines : MethodName := ⟨"LineSorterModel", "findLines", "()V"⟩
abbrev m_M_findLines : XM := (y_M_findLines, b_M_findLines, 2, none)
abbrev b_M_startOf : ByteArray := prog_11_method_8_code
abbrev y_M_startOf : MethodName := ⟨"LineSorterModel", "startOf", "(I)I"⟩
abbrev m_M_startOf : XM := (y_M_startOf, b_M_startOf, 2, (some .int))
abbrev b_M_endOf : ByteArray := prog_11_method_9_code
abbrev y_M_endOf : MethodName := ⟨"LineSorterModel", "endOf", "(I)I"⟩
abbrev m_M_endOf : XM := (y_M_endOf, b_M_endOf, 2, (some .int))
abbrev b_M_within : ByteArray := prog_11_method_10_code
abbrev y_M_within : MethodName := ⟨"LineSorterModel", "within", "(III)Z"⟩
abbrev m_M_within : XM := (y_M_within, b_M_within, 3, (some .boolean))
abbrev b_M_ways : ByteArray := prog_11_method_11_code
abbrev y_M_ways : MethodName := ⟨"LineSorterModel", "ways", "(IZZ)V"⟩
abbrev m_M_ways : XM := (y_M_ways, b_M_ways, 4, none)
abbrev b_M_separator : ByteArray := prog_11_method_12_code
abbrev y_M_separator : MethodName := ⟨"LineSorterModel", "separator", "(I)V"⟩
abbrev m_M_separator : XM := (y_M_separator, b_M_separator, 2, none)
abbrev b_M_key : ByteArray := prog_11_method_13_code
abbrev y_M_key : MethodName := ⟨"LineSorterModel", "key", "(IIIII)I"⟩
abbrev m_M_key : XM := (y_M_key, b_M_key, 7, (some .int))
abbrev b_M_keyless : ByteArray := prog_11_method_14_code
abbrev y_M_keyless : MethodName := ⟨"LineSorterModel", "keyless", "()I"⟩
abbrev m_M_keyless : XM := (y_M_keyless, b_M_keyless, 2, (some .int))
abbrev b_M_memory : ByteArray := prog_11_method_15_code
abbrev y_M_memory : MethodName := ⟨"LineSorterModel", "memory", "(II)V"⟩
abbrev m_M_memory : XM := (y_M_memory, b_M_memory, 3, none)
abbrev b_M_keysThere : ByteArray := prog_11_method_16_code
abbrev y_M_keysThere : MethodName := ⟨"LineSorterModel", "keysThere", "()I"⟩
abbrev m_M_keysThere : XM := (y_M_keysThere, b_M_keysThere, 1, (some .int))
abbrev b_M_keyOf : ByteArray := prog_11_method_17_code
abbrev y_M_keyOf : MethodName := ⟨"LineSorterModel", "keyOf", "(II)I"⟩
abbrev m_M_keyOf : XM := (y_M_keyOf, b_M_keyOf, 4, (some .int))
abbrev b_M_isBlank : ByteArray := prog_11_method_18_code
abbrev y_M_isBlank : MethodName := ⟨"LineSorterModel", "isBlank", "(I)Z"⟩
abbrev m_M_isBlank : XM := (y_M_isBlank, b_M_isBlank, 2, (some .boolean))
abbrev b_M_find : ByteArray := prog_11_method_19_code
abbrev y_M_find : MethodName := ⟨"LineSorterModel", "find", "(II)Z"⟩
abbrev m_M_find : XM := (y_M_find, b_M_find, 7, (some .boolean))
abbrev b_M_begin : ByteArray := prog_11_method_20_code
abbrev y_M_begin : MethodName := ⟨"LineSorterModel", "begin", "(IZ)I"⟩
abbrev m_M_begin : XM := (y_M_begin, b_M_begin, 5, (some .int))
abbrev b_M_keyBegin : ByteArray := prog_11_method_21_code
abbrev y_M_keyBegin : MethodName := ⟨"LineSorterModel", "keyBegin", "(II)I"⟩
abbrev m_M_keyBegin : XM := (y_M_keyBegin, b_M_keyBegin, 5, (some .int))
abbrev b_M_keyEnd : ByteArray := prog_11_method_22_code
abbrev y_M_keyEnd : MethodName := ⟨"LineSorterModel", "keyEnd", "(II)I"⟩
abbrev m_M_keyEnd : XM := (y_M_keyEnd, b_M_keyEnd, 6, (some .int))
abbrev b_M_from : ByteArray := prog_11_method_23_code
abbrev y_M_from : MethodName := ⟨"LineSorterModel", "from", "(II)I"⟩
abbrev m_M_from : XM := (y_M_from, b_M_from, 3, (some .int))
abbrev b_M_to : ByteArray := prog_11_method_24_code
abbrev y_M_to : MethodName := ⟨"LineSorterModel", "to", "(II)I"⟩
abbrev m_M_to : XM := (y_M_to, b_M_to, 3, (some .int))
abbrev b_M_counts : ByteArray := prog_11_method_25_code
abbrev y_M_counts : MethodName := ⟨"LineSorterModel", "counts", "(II)Z"⟩
abbrev m_M_counts : XM := (y_M_counts, b_M_counts, 5, (some .boolean))
abbrev b_M_folded : ByteArray := prog_11_method_26_code
abbrev y_M_folded : MethodName := ⟨"LineSorterModel", "folded", "(II)I"⟩
abbrev m_M_folded : XM := (y_M_folded, b_M_folded, 4, (some .int))
abbrev b_M_bytes : ByteArray := prog_11_method_27_code
abbrev y_M_bytes : MethodName := ⟨"LineSorterModel", "bytes", "(IIIII)I"⟩
abbrev m_M_bytes : XM := (y_M_bytes, b_M_bytes, 10, (some .int))
abbrev b_M_isDigit : ByteArray := prog_11_method_28_code
abbrev y_M_isDigit : MethodName := ⟨"LineSorterModel", "isDigit", "(II)Z"⟩
abbrev m_M_isDigit : XM := (y_M_isDigit, b_M_isDigit, 3, (some .boolean))
abbrev b_M_behindBlanks : ByteArray := prog_11_method_29_code
abbrev y_M_behindBlanks : MethodName := ⟨"LineSorterModel", "behindBlanks", "(II)I"⟩
abbrev m_M_behindBlanks : XM := (y_M_behindBlanks, b_M_behindBlanks, 4, (some .int))
abbrev b_M_isMinus : ByteArray := prog_11_method_30_code
abbrev y_M_isMinus : MethodName := ⟨"LineSorterModel", "isMinus", "(II)Z"⟩
abbrev m_M_isMinus : XM := (y_M_isMinus, b_M_isMinus, 3, (some .boolean))
abbrev b_M_wholeAt : ByteArray := prog_11_method_31_code
abbrev y_M_wholeAt : MethodName := ⟨"LineSorterModel", "wholeAt", "(II)I"⟩
abbrev m_M_wholeAt : XM := (y_M_wholeAt, b_M_wholeAt, 4, (some .int))
abbrev b_M_behindDigits : ByteArray := prog_11_method_32_code
abbrev y_M_behindDigits : MethodName := ⟨"LineSorterModel", "behindDigits", "(II)I"⟩
abbrev m_M_behindDigits : XM := (y_M_behindDigits, b_M_behindDigits, 4, (some .int))
abbrev b_M_partAt : ByteArray := prog_11_method_33_code
abbrev y_M_partAt : MethodName := ⟨"LineSorterModel", "partAt", "(II)I"⟩
abbrev m_M_partAt : XM := (y_M_partAt, b_M_partAt, 4, (some .int))
abbrev b_M_sizes : ByteArray := prog_11_method_34_code
abbrev y_M_sizes : MethodName := ⟨"LineSorterModel", "sizes", "(IIII)I"⟩
abbrev m_M_sizes : XM := (y_M_sizes, b_M_sizes, 11, (some .int))
abbrev b_M_isZero : ByteArray := prog_11_method_35_code
abbrev y_M_isZero : MethodName := ⟨"LineSorterModel", "isZero", "(II)Z"⟩
abbrev m_M_isZero : XM := (y_M_isZero, b_M_isZero, 4, (some .boolean))
abbrev b_M_sign : ByteArray := prog_11_method_36_code
abbrev y_M_sign : MethodName := ⟨"LineSorterModel", "sign", "(II)I"⟩
abbrev m_M_sign : XM := (y_M_sign, b_M_sign, 3, (some .int))
abbrev b_M_numbers : ByteArray := prog_11_method_37_code
abbrev y_M_numbers : MethodName := ⟨"LineSorterModel", "numbers", "(IIII)I"⟩
abbrev m_M_numbers : XM := (y_M_numbers, b_M_numbers, 7, (some .int))
abbrev b_M_byKeys : ByteArray := prog_11_method_38_code
abbrev y_M_byKeys : MethodName := ⟨"LineSorterModel", "byKeys", "(II)I"⟩
abbrev m_M_byKeys : XM := (y_M_byKeys, b_M_byKeys, 8, (some .int))
abbrev b_M_byAll : ByteArray := prog_11_method_39_code
abbrev y_M_byAll : MethodName := ⟨"LineSorterModel", "byAll", "(II)I"⟩
abbrev m_M_byAll : XM := (y_M_byAll, b_M_byAll, 5, (some .int))
abbrev b_M_isBefore : ByteArray := prog_11_method_40_code
abbrev y_M_isBefore : MethodName := ⟨"LineSorterModel", "isBefore", "(II)Z"⟩
abbrev m_M_isBefore : XM := (y_M_isBefore, b_M_isBefore, 4, (some .boolean))
abbrev b_M_lines : ByteArray := prog_11_method_41_code
abbrev y_M_lines : MethodName := ⟨"LineSorterModel", "lines", "()I"⟩
abbrev m_M_lines : XM := (y_M_lines, b_M_lines, 1, (some .int))
abbrev b_M_place : ByteArray := prog_11_method_42_code
abbrev y_M_place : MethodName := ⟨"LineSorterModel", "place", "(IIZ)I"⟩
abbrev m_M_place : XM := (y_M_place, b_M_place, 4, (some .int))
abbrev b_M_compare : ByteArray := prog_11_method_43_code
abbrev y_M_compare : MethodName := ⟨"LineSorterModel", "compare", "(II)I"⟩
abbrev m_M_compare : XM := (y_M_compare, b_M_compare, 3, (some .int))
abbrev b_M_hold : ByteArray := prog_11_method_44_code
abbrev y_M_hold : MethodName := ⟨"LineSorterModel", "hold", "()V"⟩
abbrev m_M_hold : XM := (y_M_hold, b_M_hold, 3, none)
abbrev b_M_makeRuns : ByteArray := prog_11_method_45_code
abbrev y_M_makeRuns : MethodName := ⟨"LineSorterModel", "makeRuns", "()V"⟩
abbrev m_M_makeRuns : XM := (y_M_makeRuns, b_M_makeRuns, 8, none)
abbrev b_M_mergeFirst : ByteArray := prog_11_method_46_code
abbrev y_M_mergeFirst : MethodName := ⟨"LineSorterModel", "mergeFirst", "()V"⟩
abbrev m_M_mergeFirst : XM := (y_M_mergeFirst, b_M_mergeFirst, 9, none)
abbrev b_M_headOf : ByteArray := prog_11_method_47_code
abbrev y_M_headOf : MethodName := ⟨"LineSorterModel", "headOf", "(I)I"⟩
abbrev m_M_headOf : XM := (y_M_headOf, b_M_headOf, 4, (some .int))
abbrev b_M_sort : ByteArray := prog_11_method_48_code
abbrev y_M_sort : MethodName := ⟨"LineSorterModel", "sort", "()I"⟩
abbrev m_M_sort : XM := (y_M_sort, b_M_sort, 2, (some .int))
abbrev b_M_check : ByteArray := prog_11_method_49_code
abbrev y_M_check : MethodName := ⟨"LineSorterModel", "check", "()I"⟩
abbrev m_M_check : XM := (y_M_check, b_M_check, 3, (some .int))
abbrev b_M_merge : ByteArray := prog_11_method_50_code
abbrev y_M_merge : MethodName := ⟨"LineSorterModel", "merge", "(I)I"⟩
abbrev m_M_merge : XM := (y_M_merge, b_M_merge, 8, (some .int))
abbrev b_M_result : ByteArray := prog_11_method_51_code
abbrev y_M_result : MethodName := ⟨"LineSorterModel", "result", "(I)I"⟩
abbrev m_M_result : XM := (y_M_result, b_M_result, 2, (some .int))
abbrev b_M_byteAt : ByteArray := prog_11_method_52_code
abbrev y_M_byteAt : MethodName := ⟨"LineSorterModel", "byteAt", "(II)I"⟩
abbrev m_M_byteAt : XM := (y_M_byteAt, b_M_byteAt, 4, (some .int))
abbrev b_M_run : ByteArray := prog_11_method_53_code
abbrev y_M_run : MethodName := ⟨"LineSorterModel", "run", "(I)I"⟩
abbrev m_M_run : XM := (y_M_run, b_M_run, 2, (some .int))
abbrev b_M_about : ByteArray := prog_11_method_54_code
abbrev y_M_about : MethodName := ⟨"LineSorterModel", "about", "(I)I"⟩
abbrev m_M_about : XM := (y_M_about, b_M_about, 2, (some .int))
abbrev b_H_init : ByteArray := prog_2_method_1_code
abbrev y_H_init : MethodName := ⟨"LineSorter$Heap", "<init>", "()V"⟩
abbrev m_H_init : XM := (y_H_init, b_H_init, 1, none)
abbrev b_H_clear : ByteArray := prog_2_method_2_code
abbrev y_H_clear : MethodName := ⟨"LineSorter$Heap", "clear", "()V"⟩
abbrev m_H_clear : XM := (y_H_clear, b_H_clear, 1, none)
abbrev b_H_put : ByteArray := prog_2_method_3_code
abbrev y_H_put : MethodName := ⟨"LineSorter$Heap", "put", "(I)V"⟩
abbrev m_H_put : XM := (y_H_put, b_H_put, 3, none)
abbrev b_H_takeLeast : ByteArray := prog_2_method_4_code
abbrev y_H_takeLeast : MethodName := ⟨"LineSorter$Heap", "takeLeast", "()I"⟩
abbrev m_H_takeLeast : XM := (y_H_takeLeast, b_H_takeLeast, 2, (some .int))
abbrev b_H_sinkFromTop : ByteArray := prog_2_method_5_code
abbrev y_H_sinkFromTop : MethodName := ⟨"LineSorter$Heap", "sinkFromTop", "(I)V"⟩
abbrev m_H_sinkFromTop : XM := (y_H_sinkFromTop, b_H_sinkFromTop, 4, none)
abbrev b_K_init : ByteArray := prog_3_method_1_code
abbrev y_K_init : MethodName := ⟨"LineSorter$Key", "<init>", "(IIIII)V"⟩
abbrev m_K_init : XM := (y_K_init, b_K_init, 6, none)
abbrev b_N_init : ByteArray := prog_4_method_1_code
abbrev y_N_init : MethodName := ⟨"LineSorter$Numeral", "<init>", "()V"⟩
abbrev m_N_init : XM := (y_N_init, b_N_init, 1, none)
abbrev b_N_read : ByteArray := prog_4_method_2_code
abbrev y_N_read : MethodName := ⟨"LineSorter$Numeral", "read", "(LLineSorter$Text;II)V"⟩
abbrev m_N_read : XM := (y_N_read, b_N_read, 8, none)
abbrev b_N_wholeLength : ByteArray := prog_4_method_3_code
abbrev y_N_wholeLength : MethodName := ⟨"LineSorter$Numeral", "wholeLength", "()I"⟩
abbrev m_N_wholeLength : XM := (y_N_wholeLength, b_N_wholeLength, 1, (some .int))
abbrev b_O_init : ByteArray := prog_5_method_1_code
abbrev y_O_init : MethodName := ⟨"LineSorter$Order", "<init>", "(LLineSorter$Text;LLineSorter$Places;)V"⟩
abbrev m_O_init : XM := (y_O_init, b_O_init, 4, none)
abbrev b_O_addKey : ByteArray := prog_5_method_2_code
abbrev y_O_addKey : MethodName := ⟨"LineSorter$Order", "addKey", "(LLineSorter$Key;)V"⟩
abbrev m_O_addKey : XM := (y_O_addKey, b_O_addKey, 2, none)
abbrev b_O_keysInUse : ByteArray := prog_5_method_3_code
abbrev y_O_keysInUse : MethodName := ⟨"LineSorter$Order", "keysInUse", "()I"⟩
abbrev m_O_keysInUse : XM := (y_O_keysInUse, b_O_keysInUse, 1, (some .int))
abbrev b_O_keyInUse : ByteArray := prog_5_method_4_code
abbrev y_O_keyInUse : MethodName := ⟨"LineSorter$Order", "keyInUse", "(I)LLineSorter$Key;"⟩
abbrev m_O_keyInUse : XM := (y_O_keyInUse, b_O_keyInUse, 2, (some (.object "LineSorter$Key")))
abbrev b_O_flagsOf : ByteArray := prog_5_method_5_code
abbrev y_O_flagsOf : MethodName := ⟨"LineSorter$Order", "flagsOf", "(LLineSorter$Key;)I"⟩
abbrev m_O_flagsOf : XM := (y_O_flagsOf, b_O_flagsOf, 2, (some .int))
abbrev b_O_comparedNumbersAside : ByteArray := prog_5_method_6_code
abbrev y_O_comparedNumbersAside : MethodName := ⟨"LineSorter$Order", "comparedNumbersAside", "(II)I"⟩
abbrev m_O_comparedNumbersAside : XM := (y_O_comparedNumbersAside, b_O_comparedNumbersAside, 5, (some .int))
abbrev b_O_comparedByKeys : ByteArray := prog_5_method_7_code
abbrev y_O_comparedByKeys : MethodName := ⟨"LineSorter$Order", "comparedByKeys", "(II)I"⟩
abbrev m_O_comparedByKeys : XM := (y_O_comparedByKeys, b_O_comparedByKeys, 12, (some .int))
abbrev b_O_comparedAsNumbers : ByteArray := prog_5_method_8_code
abbrev y_O_comparedAsNumbers : MethodName := ⟨"LineSorter$Order", "comparedAsNumbers", "(IIII)I"⟩
abbrev m_O_comparedAsNumbers : XM := (y_O_comparedAsNumbers, b_O_comparedAsNumbers, 6, (some .int))
abbrev b_P_init : ByteArray := prog_6_method_1_code
abbrev y_P_init : MethodName := ⟨"LineSorter$Places", "<init>", "(LLineSorter$Text;)V"⟩
abbrev m_P_init : XM := (y_P_init, b_P_init, 2, none)
abbrev b_P_beginOf : ByteArray := prog_6_method_2_code
abbrev y_P_beginOf : MethodName := ⟨"LineSorter$Places", "beginOf", "(LLineSorter$Key;II)I"⟩
abbrev m_P_beginOf : XM := (y_P_beginOf, b_P_beginOf, 6, (some .int))
abbrev b_P_endOf : ByteArray := prog_6_method_3_code
abbrev y_P_endOf : MethodName := ⟨"LineSorter$Places", "endOf", "(LLineSorter$Key;II)I"⟩
abbrev m_P_endOf : XM := (y_P_endOf, b_P_endOf, 6, (some .int))
abbrev b_P_fieldStart : ByteArray := prog_6_method_4_code
abbrev y_P_fieldStart : MethodName := ⟨"LineSorter$Places", "fieldStart", "(III)I"⟩
abbrev m_P_fieldStart : XM := (y_P_fieldStart, b_P_fieldStart, 6, (some .int))
abbrev b_P_fieldStop : ByteArray := prog_6_method_5_code
abbrev y_P_fieldStop : MethodName := ⟨"LineSorter$Places", "fieldStop", "(II)I"⟩
abbrev m_P_fieldStop : XM := (y_P_fieldStop, b_P_fieldStop, 5, (some .int))
abbrev b_P_passBlanksOfField : ByteArray := prog_6_method_6_code
abbrev y_P_passBlanksOfField : MethodName := ⟨"LineSorter$Places", "passBlanksOfField", "(II)I"⟩
abbrev m_P_passBlanksOfField : XM := (y_P_passBlanksOfField, b_P_passBlanksOfField, 4, (some .int))
abbrev b_R_init : ByteArray := prog_7_method_1_code
abbrev y_R_init : MethodName := ⟨"LineSorter$Ranking", "<init>", "(LLineSorter$Order;)V"⟩
abbrev m_R_init : XM := (y_R_init, b_R_init, 2, none)
abbrev b_R_rankFirst : ByteArray := prog_7_method_2_code
abbrev y_R_rankFirst : MethodName := ⟨"LineSorter$Ranking", "rankFirst", "(I)V"⟩
abbrev m_R_rankFirst : XM := (y_R_rankFirst, b_R_rankFirst, 6, none)
abbrev b_R_rankOf : ByteArray := prog_7_method_3_code
abbrev y_R_rankOf : MethodName := ⟨"LineSorter$Ranking", "rankOf", "(I)I"⟩
abbrev m_R_rankOf : XM := (y_R_rankOf, b_R_rankOf, 2, (some .int))
abbrev b_R_lineAt : ByteArray := prog_7_method_4_code
abbrev y_R_lineAt : MethodName := ⟨"LineSorter$Ranking", "lineAt", "(I)I"⟩
abbrev m_R_lineAt : XM := (y_R_lineAt, b_R_lineAt, 2, (some .int))
abbrev b_U_init : ByteArray := prog_8_method_1_code
abbrev y_U_init : MethodName := ⟨"LineSorter$Runs", "<init>", "(LLineSorter$Ranking;LLineSorter$Heap;)V"⟩
abbrev m_U_init : XM := (y_U_init, b_U_init, 3, none)
abbrev b_U_makeRuns : ByteArray := prog_8_method_2_code
abbrev y_U_makeRuns : MethodName := ⟨"LineSorter$Runs", "makeRuns", "(II)V"⟩
abbrev m_U_makeRuns : XM := (y_U_makeRuns, b_U_makeRuns, 9, none)
abbrev b_U_addLineToRun : ByteArray := prog_8_method_3_code
abbrev y_U_addLineToRun : MethodName := ⟨"LineSorter$Runs", "addLineToRun", "(I)V"⟩
abbrev m_U_addLineToRun : XM := (y_U_addLineToRun, b_U_addLineToRun, 2, none)
abbrev b_U_countMerges : ByteArray := prog_8_method_4_code
abbrev y_U_countMerges : MethodName := ⟨"LineSorter$Runs", "countMerges", "(I)V"⟩
abbrev m_U_countMerges : XM := (y_U_countMerges, b_U_countMerges, 7, none)
abbrev b_T_init : ByteArray := prog_9_method_1_code
abbrev y_T_init : MethodName := ⟨"LineSorter$Text", "<init>", "()V"⟩
abbrev m_T_init : XM := (y_T_init, b_T_init, 1, none)
abbrev b_T_append : ByteArray := prog_9_method_2_code
abbrev y_T_append : MethodName := ⟨"LineSorter$Text", "append", "(I)V"⟩
abbrev m_T_append : XM := (y_T_append, b_T_append, 4, none)
abbrev b_T_makeRoom : ByteArray := prog_9_method_3_code
abbrev y_T_makeRoom : MethodName := ⟨"LineSorter$Text", "makeRoom", "(I)V"⟩
abbrev m_T_makeRoom : XM := (y_T_makeRoom, b_T_makeRoom, 2, none)
abbrev b_T_keepFirst : ByteArray := prog_9_method_4_code
abbrev y_T_keepFirst : MethodName := ⟨"LineSorter$Text", "keepFirst", "(I)V"⟩
abbrev m_T_keepFirst : XM := (y_T_keepFirst, b_T_keepFirst, 2, none)
abbrev b_T_lineCount : ByteArray := prog_9_method_5_code
abbrev y_T_lineCount : MethodName := ⟨"LineSorter$Text", "lineCount", "()I"⟩
abbrev m_T_lineCount : XM := (y_T_lineCount, b_T_lineCount, 1, (some .int))
abbrev b_T_startOf : ByteArray := prog_9_method_6_code
abbrev y_T_startOf : MethodName := ⟨"LineSorter$Text", "startOf", "(I)I"⟩
abbrev m_T_startOf : XM := (y_T_startOf, b_T_startOf, 2, (some .int))
abbrev b_T_stopOf : ByteArray := prog_9_method_7_code
abbrev y_T_stopOf : MethodName := ⟨"LineSorter$Text", "stopOf", "(I)I"⟩
abbrev m_T_stopOf : XM := (y_T_stopOf, b_T_stopOf, 2, (some .int))
abbrev b_T_at : ByteArray := prog_9_method_8_code
abbrev y_T_at : MethodName := ⟨"LineSorter$Text", "at", "(I)I"⟩
abbrev m_T_at : XM := (y_T_at, b_T_at, 2, (some .int))
abbrev b_T_isBlankAt : ByteArray := prog_9_method_9_code
abbrev y_T_isBlankAt : MethodName := ⟨"LineSorter$Text", "isBlankAt", "(I)Z"⟩
abbrev m_T_isBlankAt : XM := (y_T_isBlankAt, b_T_isBlankAt, 2, (some .boolean))
abbrev b_T_passDigits : ByteArray := prog_9_method_10_code
abbrev y_T_passDigits : MethodName := ⟨"LineSorter$Text", "passDigits", "(II)I"⟩
abbrev m_T_passDigits : XM := (y_T_passDigits, b_T_passDigits, 4, (some .int))
abbrev b_T_comparedBytes : ByteArray := prog_9_method_11_code
abbrev y_T_comparedBytes : MethodName := ⟨"LineSorter$Text", "comparedBytes", "(IIIII)I"⟩
abbrev m_T_comparedBytes : XM := (y_T_comparedBytes, b_T_comparedBytes, 10, (some .int))
abbrev b_T_weightOf : ByteArray := prog_9_method_12_code
abbrev y_T_weightOf : MethodName := ⟨"LineSorter$Text", "weightOf", "(II)I"⟩
abbrev m_T_weightOf : XM := (y_T_weightOf, b_T_weightOf, 6, (some .int))
abbrev b_L_feed : ByteArray := method_3_code
abbrev y_L_feed : MethodName := ⟨"LineSorterLaw", "feed", "(LLineSorter;IIIII[J)I"⟩
abbrev m_L_feed : XM := (y_L_feed, b_L_feed, 8, (some .int))
abbrev b_L_end : ByteArray := method_4_code
abbrev y_L_end : MethodName := ⟨"LineSorterLaw", "end", "(LLineSorter;I)I"⟩
abbrev m_L_end : XM := (y_L_end, b_L_end, 3, (some .int))
abbrev b_L_ways : ByteArray := method_5_code
abbrev y_L_ways : MethodName := ⟨"LineSorterLaw", "ways", "(LLineSorter;IZZ)I"⟩
abbrev m_L_ways : XM := (y_L_ways, b_L_ways, 5, (some .int))
abbrev b_L_separator : ByteArray := method_6_code
abbrev y_L_separator : MethodName := ⟨"LineSorterLaw", "separator", "(LLineSorter;I)I"⟩
abbrev m_L_separator : XM := (y_L_separator, b_L_separator, 3, (some .int))
abbrev b_L_key : ByteArray := method_7_code
abbrev y_L_key : MethodName := ⟨"LineSorterLaw", "key", "(LLineSorter;IIIII[J)I"⟩
abbrev m_L_key : XM := (y_L_key, b_L_key, 8, (some .int))
abbrev b_L_memory : ByteArray := method_8_code
abbrev y_L_memory : MethodName := ⟨"LineSorterLaw", "memory", "(LLineSorter;II)I"⟩
abbrev m_L_memory : XM := (y_L_memory, b_L_memory, 4, (some .int))
abbrev b_L_place : ByteArray := method_9_code
abbrev y_L_place : MethodName := ⟨"LineSorterLaw", "place", "(LLineSorter;IIZ[J)I"⟩
abbrev m_L_place : XM := (y_L_place, b_L_place, 6, (some .int))
abbrev b_L_compare : ByteArray := method_10_code
abbrev y_L_compare : MethodName := ⟨"LineSorterLaw", "compare", "(LLineSorter;II[J)I"⟩
abbrev m_L_compare : XM := (y_L_compare, b_L_compare, 5, (some .int))
abbrev b_L_sort : ByteArray := method_11_code
abbrev y_L_sort : MethodName := ⟨"LineSorterLaw", "sort", "(LLineSorter;[J)I"⟩
abbrev m_L_sort : XM := (y_L_sort, b_L_sort, 3, (some .int))
abbrev b_L_merge : ByteArray := method_12_code
abbrev y_L_merge : MethodName := ⟨"LineSorterLaw", "merge", "(LLineSorter;I[J)I"⟩
abbrev m_L_merge : XM := (y_L_merge, b_L_merge, 4, (some .int))
abbrev b_L_about : ByteArray := method_13_code
abbrev y_L_about : MethodName := ⟨"LineSorterLaw", "about", "(LLineSorter;I[J)I"⟩
abbrev m_L_about : XM := (y_L_about, b_L_about, 4, (some .int))
def fd_S : u_T := fun k => match k with
  | 0 => (cn_S, "text", "LLineSorter$Text;", true)
  | 1 => (cn_S, "places", "LLineSorter$Places;", true)
  | 2 => (cn_S, "order", "LLineSorter$Order;", true)
  | 3 => (cn_S, "ranking", "LLineSorter$Ranking;", true)
  | 4 => (cn_S, "heap", "LLineSorter$Heap;", true)
  | 5 => (cn_S, "runs", "LLineSorter$Runs;", true)
  | 6 => (cn_S, "resultLines", "[I", true)
  | 7 => (cn_S, "resultCount", "I", false)
  | 8 => (cn_S, "linesInMemory", "I", false)
  | _ => (cn_S, "runsAtATime", "I", false)
def tf_S : Nat → FieldType := fun k => match k with
  | 0 => (.object "LineSorter$Text")
  | 1 => (.object "LineSorter$Places")
  | 2 => (.object "LineSorter$Order")
  | 3 => (.object "LineSorter$Ranking")
  | 4 => (.object "LineSorter$Heap")
  | 5 => (.object "LineSorter$Runs")
  | 6 => (.array .int)
  | 7 => .int
  | 8 => .int
  | _ => .int
def fd_T : u_T := fun k => match k with
  | 0 => (cn_T, "bytes", "[B", false)
  | 1 => (cn_T, "length", "I", false)
  | 2 => (cn_T, "breaks", "[I", false)
  | _ => (cn_T, "breakCount", "I", false)
def tf_T : Nat → FieldType := fun k => match k with
  | 0 => (.array .byte)
  | 1 => .int
  | 2 => (.array .int)
  | _ => .int
def fd_P : u_T := fun k => match k with
  | 0 => (cn_P, "text", "LLineSorter$Text;", true)
  | _ => (cn_P, "fieldSeparator", "I", false)
def tf_P : Nat → FieldType := fun k => match k with
  | 0 => (.object "LineSorter$Text")
  | _ => .int
def fd_O : u_T := fun k => match k with
  | 0 => (cn_O, "text", "LLineSorter$Text;", true)
  | 1 => (cn_O, "places", "LLineSorter$Places;", true)
  | 2 => (cn_O, "keys", "[LLineSorter$Key;", true)
  | 3 => (cn_O, "wholeLine", "LLineSorter$Key;", true)
  | 4 => (cn_O, "left", "LLineSorter$Numeral;", true)
  | 5 => (cn_O, "right", "LLineSorter$Numeral;", true)
  | 6 => (cn_O, "keyCount", "I", false)
  | 7 => (cn_O, "allsFlags", "I", false)
  | 8 => (cn_O, "isStable", "Z", false)
  | _ => (cn_O, "isOnce", "Z", false)
def tf_O : Nat → FieldType := fun k => match k with
  | 0 => (.object "LineSorter$Text")
  | 1 => (.object "LineSorter$Places")
  | 2 => (.array (.object "LineSorter$Key"))
  | 3 => (.object "LineSorter$Key")
  | 4 => (.object "LineSorter$Numeral")
  | 5 => (.object "LineSorter$Numeral")
  | 6 => .int
  | 7 => .int
  | 8 => .boolean
  | _ => .boolean
def fd_K : u_T := fun k => match k with
  | 0 => (cn_K, "firstField", "I", true)
  | 1 => (cn_K, "firstCharacter", "I", true)
  | 2 => (cn_K, "lastField", "I", true)
  | 3 => (cn_K, "lastCharacter", "I", true)
  | _ => (cn_K, "ownFlags", "I", true)
def tf_K : Nat → FieldType := fun k => match k with
  | 0 => .int
  | 1 => .int
  | 2 => .int
  | 3 => .int
  | _ => .int
def fd_N : u_T := fun k => match k with
  | 0 => (cn_N, "sign", "I", false)
  | 1 => (cn_N, "whole", "I", false)
  | 2 => (cn_N, "wholeStop", "I", false)
  | 3 => (cn_N, "fraction", "I", false)
  | _ => (cn_N, "fractionStop", "I", false)
def tf_N : Nat → FieldType := fun k => match k with
  | 0 => .int
  | 1 => .int
  | 2 => .int
  | 3 => .int
  | _ => .int
def fd_R : u_T := fun k => match k with
  | 0 => (cn_R, "order", "LLineSorter$Order;", true)
  | 1 => (cn_R, "ranks", "[I", true)
  | _ => (cn_R, "ranked", "[I", true)
def tf_R : Nat → FieldType := fun k => match k with
  | 0 => (.object "LineSorter$Order")
  | 1 => (.array .int)
  | _ => (.array .int)
def fd_H : u_T := fun k => match k with
  | 0 => (cn_H, "numbers", "[I", true)
  | _ => (cn_H, "count", "I", false)
def tf_H : Nat → FieldType := fun k => match k with
  | 0 => (.array .int)
  | _ => .int
def fd_U : u_T := fun k => match k with
  | 0 => (cn_U, "ranking", "LLineSorter$Ranking;", true)
  | 1 => (cn_U, "heap", "LLineSorter$Heap;", true)
  | 2 => (cn_U, "lengths", "[I", true)
  | 3 => (cn_U, "queue", "[I", true)
  | 4 => (cn_U, "runCount", "I", false)
  | 5 => (cn_U, "mergeCount", "I", false)
  | 6 => (cn_U, "linesMoved", "I", false)
  | _ => (cn_U, "linesDropped", "I", false)
def tf_U : Nat → FieldType := fun k => match k with
  | 0 => (.object "LineSorter$Ranking")
  | 1 => (.object "LineSorter$Heap")
  | 2 => (.array .int)
  | 3 => (.array .int)
  | 4 => .int
  | 5 => .int
  | 6 => .int
  | _ => .int
def fd_M : u_T := fun k => match k with
  | 0 => (cn_M, "text", "[B", true)
  | 1 => (cn_M, "length", "I", false)
  | 2 => (cn_M, "starts", "[I", true)
  | 3 => (cn_M, "lines", "I", false)
  | 4 => (cn_M, "split", "Z", false)
  | 5 => (cn_M, "all", "I", false)
  | 6 => (cn_M, "stable", "Z", false)
  | 7 => (cn_M, "once", "Z", false)
  | 8 => (cn_M, "separator", "I", false)
  | 9 => (cn_M, "keys", "[I", true)
  | 10 => (cn_M, "keyCount", "I", false)
  | 11 => (cn_M, "memory", "I", false)
  | 12 => (cn_M, "ways", "I", false)
  | 13 => (cn_M, "begins", "[I", true)
  | 14 => (cn_M, "ends", "[I", true)
  | 15 => (cn_M, "held", "Z", false)
  | 16 => (cn_M, "result", "[I", true)
  | 17 => (cn_M, "results", "I", false)
  | 18 => (cn_M, "rows", "[I", true)
  | 19 => (cn_M, "sizes", "[I", true)
  | 20 => (cn_M, "other", "[I", true)
  | 21 => (cn_M, "runs", "I", false)
  | 22 => (cn_M, "made", "[I", true)
  | 23 => (cn_M, "madeCount", "I", false)
  | 24 => (cn_M, "merges", "I", false)
  | 25 => (cn_M, "moved", "I", false)
  | 26 => (cn_M, "gone", "I", false)
  | 27 => (cn_M, "inMemory", "[I", true)
  | 28 => (cn_M, "fieldAt", "I", false)
  | 29 => (cn_M, "fieldEnd", "I", false)
  | 30 => (cn_M, "thrown", "I", false)
  | _ => (cn_M, "taken", "[I", true)
def tf_M : Nat → FieldType := fun k => match k with
  | 0 => (.array .byte)
  | 1 => .int
  | 2 => (.array .int)
  | 3 => .int
  | 4 => .boolean
  | 5 => .int
  | 6 => .boolean
  | 7 => .boolean
  | 8 => .int
  | 9 => (.array .int)
  | 10 => .int
  | 11 => .int
  | 12 => .int
  | 13 => (.array .int)
  | 14 => (.array .int)
  | 15 => .boolean
  | 16 => (.array .int)
  | 17 => .int
  | 18 => (.array .int)
  | 19 => (.array .int)
  | 20 => (.array .int)
  | 21 => .int
  | 22 => (.array .int)
  | 23 => .int
  | 24 => .int
  | 25 => .int
  | 26 => .int
  | 27 => (.array .int)
  | 28 => .int
  | 29 => .int
  | 30 => .int
  | _ => (.array .int)
abbrev xc_cl : List vw_C := [(cn_S, fd_S, 10), (cn_T, fd_T, 4), (cn_P, fd_P, 2), (cn_O, fd_O, 10), (cn_K, fd_K, 5), (cn_N, fd_N, 5), (cn_R, fd_R, 3), (cn_H, fd_H, 2), (cn_U, fd_U, 8), (cn_M, fd_M, 32)]
def xw_s : List (String × Nat × String) := [("LineSorter", 78, "the text would have more than 20000 bytes"), ("LineSorter", 93, "the text has not so many bytes"), ("LineSorter", 99, "flags are 0 to 127"), ("LineSorter", 111, "a separator is NONE or a byte, not 10"), ("LineSorter", 116, "a number of the key is not as it may be"), ("LineSorter", 123, "there are 6 keys"), ("LineSorter", 135, "memory is 2 to 500 lines, and 2 to 16 runs are merged"), ("LineSorter", 150, "there is no such line or key"), ("LineSorter", 172, "there is no such line"), ("LineSorter", 178, "there are more than 1000 lines"), ("LineSorter", 202, "a piece has one line or more"), ("LineSorter", 234, "nothing is told about this")]
end
section
/-! The judgement XX: from frame (pc, locals lv, operand stack st) of method M over the world ws the machine comes to an end F. All that goes along (tables' words, the classes' numbers, the old heap) is inside. -/
/-- classes' numbers and slots; array classes; where the old heap ends; the launch -/
abbrev XG : Type := va_G × (Nat → ClassId) × Nat × Launch
abbrev XF : Type := List Frame → Array Value → State → State → Prop
def xg_A (G : XG) : Nat → Prop := fun q => G.2.2.1 ≤ q
def xg_ty (G : XG) : List (ClassId × FieldType) := [(G.2.1 0, .byte), (G.2.1 1, .int), (G.2.1 2, .long), (G.2.1 3, .object "LineSorter$Key")]
/-- the good words of the tables -/
def xw_g : List Cond := lw_tbl.filter goodWord
def xw_isN : Cond → Bool
  | .fieldLinkNest .. => true
  | .methodLinkNest .. => true
  | .declares .. => true
  | .castable .. => true
  | _ => false
def xw_n : List Cond := lw_tbl.filter xw_isN
theorem xw_in {w : Cond} (h : w ∈ lw_tbl) (hg : goodWord w = true) : w ∈ xw_g := List.mem_filter.mpr ⟨h, hg⟩
theorem xw_inN {w : Cond} (h : w ∈ lw_tbl) (hg : xw_isN w = true) : w ∈ xw_n := List.mem_filter.mpr ⟨h, hg⟩
/-- what holds of the tables, and of Throwable's two statics, at every state -/
def xk_en (G : XG) (U : State) : Prop := (∀ w ∈ xw_g, ∀ a : Array Value, w.before a U = true) ∧ ((∀ w ∈ xw_n, va_Nw w U) ∧ (∀ t ∈ xw_s, ∃ a : Nat, vk_R t.1 t.2.1 t.2.2 a U) ∧ va_Zq "java/lang/Throwable" "UNASSIGNED_STACK" "[Ljava/lang/StackTraceElement;" (xg_A G) U U.heap ∧ va_Zq "java/lang/Throwable" "SUPPRESSED_SENTINEL" "Ljava/util/List;" (xg_A G) U U.heap) ∧ va_K G.1 xc_cl (xg_ty G) U
theorem xk_en.moved {G : XG} {s U : State} (hW : s.WarmedH U.vm) (hH : ∀ a : Nat, a < s.heap.size → ¬ xg_A G a → U.heap[a]? = s.heap[a]?) (h : xk_en G s) : xk_en G U := by
  refine ⟨fun w hw a => word_at (args := #[]) hW (good_of_word (List.mem_filter.mp hw).2) (h.1 w hw #[]), ⟨fun w hw => ?_, fun t ht => ?_, (h.2.1.2.2.1.moved hW.alike).kept hH, (h.2.1.2.2.2.moved hW.alike).kept hH⟩, va_K.moved hW.alike h.2.2⟩
  · have h1 := (List.mem_filter.mp hw).2
    have h2 := h.2.1.1 w hw
    cases w <;> first | (simp [xw_isN] at h1; done) | exact va_Nw.warmF hW h2 | exact va_Nw.warmM hW h2 | exact va_Nw.warmD hW h2 | exact va_Nw.warmC hW h2
  · obtain ⟨a, h3⟩ := h.2.1.2.1 t ht
    exact ⟨a, h3.warm hW⟩
def xx_fx (G : XG) (M : XM) (p : Program) (s : State) (m : MethodId) (meth : Method) (c : Code) : Prop :=
  p.tables.exec = Jvm.exec ∧ c.code = M.2.1 ∧ c.maxLocals = M.2.2.1 ∧ meth.sig.returnType = M.2.2.2 ∧ meth.locks = false ∧ s.vm.findClass M.1.cls = some m.cls ∧ ((meth.name = M.1.name ∧ s.methodNamed? M.1 = some m) ∨ M.1.name = "law") ∧ G.2.2.1 ≤ s.heap.size ∧ xk_en G s
def XX (G : XG) (M : XM) (R : Room) (F : XF) (cells slots : Nat) (ws : va_W) (pc : Nat) (lv : List (Nat × Value)) (st : List Value) : Prop :=
  ∀ (p : Program) (e : Env) (s : State) (m : MethodId) (args : Array Value) (below : List Frame) (meth : Method) (c : Code) (H : Heap) (locs : List Loc) (ls : Array Slot),
    xx_fx G M p s m meth c → va_P G.1 xc_cl ws H → va_D (xg_A G) ws → va_S (xg_A G) s.heap H locs → lv_has ls M.2.2.1 lv →
    W p G.2.2.2 e R s m args below meth c H locs cells slots (F below args s) (F0 m pc ls st)
def xx_ws (M : XM) : List Cond := .code M.1 M.2.1 M.2.2.1 M.2.2.2 :: xw_g
def xx_pc (G : XG) (av : List Value) (ws : va_W) : Array Value → State → Prop := fun v U => v = av.toArray ∧ G.2.2.1 ≤ U.heap.size ∧ xk_en G U ∧ va_P G.1 xc_cl ws U.heap ∧ va_D (xg_A G) ws
def xx_qc (G : XG) (P : Option Value → va_W → Prop) : Array Value → State → Outcome → State → Prop := fun _ st o t => va_F (xg_A G) st t ∧ ∃ (r : Option Value) (ws : va_W), o = .returned r ∧ P r ws ∧ va_P G.1 xc_cl ws t.heap ∧ va_D (xg_A G) ws
/-- the contract of method M: from arguments av and world ws it returns r with world ws' such that P r ws' -/
def MM (G : XG) (M : XM) (rm : Room) (av : List Value) (ws : va_W) (P : Option Value → va_W → Prop) : Prop :=
  Met G.2.2.2 M.1 (xx_ws M) rm (xx_pc G av ws) (xx_qc G P) rm.cells rm.slots (xg_A G)
def xx_F (G : XG) (P : Option Value → va_W → Prop) (rm : Room) : XF := fun below args s => MQ below (xx_qc G P) args s rm.cells rm.slots (xg_A G)
theorem xx_blind (G : XG) (av : List Value) (ws : va_W) : FrameBlind (xx_pc G av ws) := by
  intro a U g mk h
  obtain ⟨h1, h2, h3, h4, h5⟩ := h
  exact ⟨h1, h2, xk_en.moved (s := U) (U := U.calling g mk a) (State.WarmedH.refl U) (fun _ _ _ => rfl) h3, h4, h5⟩
theorem MM.of {G : XG} {M : XM} {rm : Room} {av : List Value} {ws : va_W} {P : Option Value → va_W → Prop} (hy : plainName M.1.cls = true) (hlen : (lg_sl av).length ≤ M.2.2.1)
    (h : XX G M rm (xx_F G P rm) 0 0 ws 0 (lv_args 0 av) []) : MM G M rm av ws P := by
  refine Met.ofW (cc := M.2.1) (maxL := M.2.2.1) (ret := M.2.2.2) hy rfl ?_
  intro p e s m args below meth c s₁ B hml hv
  obtain ⟨rfl, hbase, hen, hP, hD⟩ := hv
  have hl := lv_entry av (n := M.2.2.1) hlen
  rw [lg_entry_eq]
  exact h p e s m _ below meth c s.heap [] _ ⟨B.exec, B.bytes, hml, B.returns, B.notSynchronized, findClass_of_methodNamed B.named, Or.inl ⟨(name_of_methodNamed B.named B.method).1, B.named⟩, hbase, hen⟩ hP hD va_S.rf hl
/-- a contract may promise less -/
theorem MM.mono {G : XG} {M : XM} {rm : Room} {av : List Value} {ws : va_W} {P P' : Option Value → va_W → Prop} (h : MM G M rm av ws P) (hp : ∀ r w, P r w → P' r w) : MM G M rm av ws P' := by
  intro p e h1 h2 h3 s m args below h4 h5 h6 h7
  obtain ⟨n, o, a1, a2, a3, ⟨b1, r, w, b2, b3, b4⟩, b5⟩ := h p e h1 h2 h3 s m args below h4 h5 h6 h7
  exact ⟨n, o, a1, a2, a3, ⟨b1, r, w, b2, hp r w b3, b4⟩, b5⟩
section
variable {p : Program} {l : Launch} {e : Env} {R : Room} {s : State} {m : MethodId} {args : Array Value} {below : List Frame} {meth : Method} {c : Code} {H : Heap} {locs : List Loc} {cells slots : Nat} {Q : State → Prop}
theorem xx_after {G : XG} {P : Option Value → va_W → Prop} {a : Array Value} {mc ms pc : Nat} {ls : Array Slot} {st0 rest : List Value} (hr : va_Run p l e R s m args below meth c H locs cells slots mc ms (F0 m pc ls st0) rest (xx_qc G P a) (xg_A G)) (hS : va_S (xg_A G) s.heap H locs)
    (kk : ∀ (r : Option Value) (ws1 : va_W) (H1 : Heap) (locs1 : List Loc), P r ws1 → va_P G.1 xc_cl ws1 H1 → va_D (xg_A G) ws1 → va_S (xg_A G) s.heap H1 locs1 → W p l e R s m args below meth c H1 locs1 (cells + mc) (slots + ms) Q (F0 m (pc + 3) ls (r.toList ++ rest))) : W p l e R s m args below meth c H locs cells slots Q (F0 m pc ls st0) := by
  intro T hT X
  obtain ⟨v, st₀, t, T', L, h0, X', hL, e1, e2, ⟨⟨hz, hk⟩, r, ws1, hv, hp, hP1, hD1⟩, st⟩ := hr T hT X
  cases hv
  rw [h0] at hz hk
  obtain ⟨t2, a1, b1⟩ := kk v ws1 T'.heap (locs ++ L) hp (by rw [e1]; exact hP1) hD1 ⟨Nat.le_trans hS.1 (by rw [e1]; exact hz), fun q h1 h2 => by rw [e1, hk q (Nat.lt_of_lt_of_le h1 hS.1) h2]; exact hS.2.1 q h1 h2, fun q hq => by
      rcases List.mem_append.mp hq with h | h
      · exact hS.2.2 q h
      · exact hL q h⟩ T' rfl X'
  exact ⟨t2, st t2 a1, b1⟩
end
/-- a method as the tables have it -/
def xx_mt (Mk : XM) (n : Nat) : Prop := Cond.code Mk.1 Mk.2.1 Mk.2.2.1 Mk.2.2.2 ∈ xw_g ∧ Cond.initialized Mk.1.cls ∈ xw_g ∧ Mk.1.cls ≠ "java/lang/invoke/MethodHandle" ∧ Mk.1.cls ≠ "java/lang/invoke/VarHandle" ∧ (parseMethodDescriptor Mk.1.desc).map (fun d => d.parameters.length) = some n
/-- a class as the tables have it -/
def xx_cf (ci : Nat) (C : String) (T : u_T) (N : Nat) (ty : Nat → FieldType) : Prop := xc_cl[ci]? = some (C, T, N) ∧ (∀ w ∈ u_ws C T N, w ∈ xw_g) ∧ (∀ k, k < N → parseFieldDescriptor (T k).2.2.1 = some (ty k)) ∧ ∀ a, a < N → ∀ b, b < N → a ≠ b → (T a).2.1 ≠ (T b).2.1
/-- the field k of class ci, as own's pool names it at idx -/
def xx_fl (own : String) (idx ci k : Nat) : Prop := ∃ (C : String) (T : u_T) (N : Nat) (ty : Nat → FieldType), xx_cf ci C T N ty ∧ k < N ∧ (Cond.fieldLink own idx (T k).1 (T k).2.1 (T k).2.2.1 ∈ xw_g ∨ ∃ host : String, Cond.fieldLinkNest own idx (T k).1 (T k).2.1 (T k).2.2.1 host ∈ xw_n)
def xx_fp (own : String) (idx ci k : Nat) (t : FieldType) : Prop := ∃ (C : String) (T : u_T) (N : Nat) (ty : Nat → FieldType), xx_cf ci C T N ty ∧ k < N ∧ (T k).2.2.2 = false ∧ parseFieldDescriptor (T k).2.2.1 = some t ∧ (Cond.fieldLink own idx (T k).1 (T k).2.1 (T k).2.2.1 ∈ xw_g ∨ ∃ host : String, Cond.fieldLinkNest own idx (T k).1 (T k).2.1 (T k).2.2.1 host ∈ xw_n)
def xx_ff (own : String) (idx ci k : Nat) (t : FieldType) : Prop := ∃ (C : String) (T : u_T) (N : Nat) (ty : Nat → FieldType), xx_cf ci C T N ty ∧ k < N ∧ (T k).2.2.2 = true ∧ (T k).1 = own ∧ parseFieldDescriptor (T k).2.2.1 = some t ∧ Cond.fieldLink own idx (T k).1 (T k).2.1 (T k).2.2.1 ∈ xw_g
def xx_nw (own : String) (idx ci : Nat) (fs : List Value) (N : Nat) : Prop := ∃ (C : String) (T : u_T) (ty : Nat → FieldType), xx_cf ci C T N ty ∧ Cond.classLink own idx C ∈ xw_g ∧ Cond.instantiable C N ∈ xw_g ∧ Cond.initialized C ∈ xw_g ∧ ∀ j, j < N → defaultValue (ty j) = vp_V fs j
theorem xx_good {Mk : XM} (h : Cond.code Mk.1 Mk.2.1 Mk.2.2.1 Mk.2.2.2 ∈ xw_g) : GoodIn xw_g (xx_ws Mk) := by
  intro w hw
  rcases List.mem_cons.mp hw with h0 | h1
  · rw [h0]; exact ⟨h, good_of_word (List.mem_filter.mp h).2⟩
  · exact ⟨h1, good_of_word (List.mem_filter.mp h1).2⟩
section
variable {G : XG} {M : XM} {R : Room} {F : XF} {cells slots : Nat} {ws : va_W} {pc : Nat} {lv : List (Nat × Value)} {st : List Value}
theorem XX.iconst {n : Int} {v : Int32} (hd : decode M.2.1 pc = .ok (.iconst n, 1)) (hv : Int32.ofInt n = v) (k : XX G M R F cells slots ws (pc + 1) lv (.int v :: st)) : XX G M R F cells slots ws pc lv (st) := by
  intro p e s m args below meth c H locs ls hf hP hD hS hl
  exact lv_iconst hf.1 hf.2.1 hd hv (k p e s m args below meth c H locs ls hf hP hD hS hl)
theorem XX.bipush {n : Int} {v : Int32} (hd : decode M.2.1 pc = .ok (.bipush n, 2)) (hv : (Int8.ofInt n).toInt32 = v) (k : XX G M R F cells slots ws (pc + 2) lv (.int v :: st)) : XX G M R F cells slots ws pc lv (st) := by
  intro p e s m args below meth c H locs ls hf hP hD hS hl
  exact lv_bipush hf.1 hf.2.1 hd hv (k p e s m args below meth c H locs ls hf hP hD hS hl)
theorem XX.sipush {n : Int} {v : Int32} (hd : decode M.2.1 pc = .ok (.sipush n, 3)) (hv : (Int16.ofInt n).toInt32 = v) (k : XX G M R F cells slots ws (pc + 3) lv (.int v :: st)) : XX G M R F cells slots ws pc lv (st) := by
  intro p e s m args below meth c H locs ls hf hP hD hS hl
  exact lv_sipush hf.1 hf.2.1 hd hv (k p e s m args below meth c H locs ls hf hP hD hS hl)
theorem XX.lconst {n : Fin 2} {v : Int64} (hd : decode M.2.1 pc = .ok (.lconst n, 1)) (hv : Int64.ofNat (n : Nat) = v) (k : XX G M R F cells slots ws (pc + 1) lv (.long v :: st)) : XX G M R F cells slots ws pc lv (st) := by
  intro p e s m args below meth c H locs ls hf hP hD hS hl
  exact lv_lconst hf.1 hf.2.1 hd hv (k p e s m args below meth c H locs ls hf hP hD hS hl)
theorem XX.iload_n {j : Fin 4} {i : Nat} {x : Int32} (hd : decode M.2.1 pc = .ok (.iload_n j, 1)) (hi : (j : Nat) = i) (z : Nat) (hz : lv[z]? = some (i, .int x)) (k : XX G M R F cells slots ws (pc + 1) lv (.int x :: st)) : XX G M R F cells slots ws pc lv (st) := by
  intro p e s m args below meth c H locs ls hf hP hD hS hl
  exact lv_iload_n hf.1 hf.2.1 hd hi (lv_at hl z hz) (k p e s m args below meth c H locs ls hf hP hD hS hl)
theorem XX.iload {i : Nat} {x : Int32} (hd : decode M.2.1 pc = .ok (.iload i, 2)) (z : Nat) (hz : lv[z]? = some (i, .int x)) (k : XX G M R F cells slots ws (pc + 2) lv (.int x :: st)) : XX G M R F cells slots ws pc lv (st) := by
  intro p e s m args below meth c H locs ls hf hP hD hS hl
  exact lv_iload hf.1 hf.2.1 hd (lv_at hl z hz) (k p e s m args below meth c H locs ls hf hP hD hS hl)
theorem XX.lload_n {j : Fin 4} {i : Nat} {x : Int64} (hd : decode M.2.1 pc = .ok (.lload_n j, 1)) (hi : (j : Nat) = i) (z : Nat) (hz : lv[z]? = some (i, .long x)) (k : XX G M R F cells slots ws (pc + 1) lv (.long x :: st)) : XX G M R F cells slots ws pc lv (st) := by
  intro p e s m args below meth c H locs ls hf hP hD hS hl
  exact lv_lload_n hf.1 hf.2.1 hd hi (lv_at hl z hz) (k p e s m args below meth c H locs ls hf hP hD hS hl)
theorem XX.lload {i : Nat} {x : Int64} (hd : decode M.2.1 pc = .ok (.lload i, 2)) (z : Nat) (hz : lv[z]? = some (i, .long x)) (k : XX G M R F cells slots ws (pc + 2) lv (.long x :: st)) : XX G M R F cells slots ws pc lv (st) := by
  intro p e s m args below meth c H locs ls hf hP hD hS hl
  exact lv_lload hf.1 hf.2.1 hd (lv_at hl z hz) (k p e s m args below meth c H locs ls hf hP hD hS hl)
theorem XX.aload_n {j : Fin 4} {i : Nat} {x : Nat} (hd : decode M.2.1 pc = .ok (.aload_n j, 1)) (hi : (j : Nat) = i) (z : Nat) (hz : lv[z]? = some (i, .ref x)) (k : XX G M R F cells slots ws (pc + 1) lv (.ref x :: st)) : XX G M R F cells slots ws pc lv (st) := by
  intro p e s m args below meth c H locs ls hf hP hD hS hl
  exact lv_aload_n hf.1 hf.2.1 hd hi (lv_at hl z hz) (k p e s m args below meth c H locs ls hf hP hD hS hl)
theorem XX.aload {i : Nat} {x : Nat} (hd : decode M.2.1 pc = .ok (.aload i, 2)) (z : Nat) (hz : lv[z]? = some (i, .ref x)) (k : XX G M R F cells slots ws (pc + 2) lv (.ref x :: st)) : XX G M R F cells slots ws pc lv (st) := by
  intro p e s m args below meth c H locs ls hf hP hD hS hl
  exact lv_aload hf.1 hf.2.1 hd (lv_at hl z hz) (k p e s m args below meth c H locs ls hf hP hD hS hl)
theorem XX.istore_n {j : Fin 4} {i : Nat} {x : Int32} {lv2 : List (Nat × Value)} (hd : decode M.2.1 pc = .ok (.istore_n j, 1)) (hi : (j : Nat) = i) (hn : i < M.2.2.1) (h2 : (i, Value.int x) :: lv.filter (fun q => !(q.1 == i) && !(q.1 + 1 == i && q.2.category == 2)) = lv2) (k : XX G M R F cells slots ws (pc + 1) lv2 st) : XX G M R F cells slots ws pc lv (.int x :: st) := by
  intro p e s m args below meth c H locs ls hf hP hD hS hl
  exact lv_istore_n hf.1 hf.2.1 hd hi hl hn h2 (fun ls2 hl2 => k p e s m args below meth c H locs ls2 hf hP hD hS hl2)
theorem XX.istore {i : Nat} {x : Int32} {lv2 : List (Nat × Value)} (hd : decode M.2.1 pc = .ok (.istore i, 2)) (hn : i < M.2.2.1) (h2 : (i, Value.int x) :: lv.filter (fun q => !(q.1 == i) && !(q.1 + 1 == i && q.2.category == 2)) = lv2) (k : XX G M R F cells slots ws (pc + 2) lv2 st) : XX G M R F cells slots ws pc lv (.int x :: st) := by
  intro p e s m args below meth c H locs ls hf hP hD hS hl
  exact lv_istore hf.1 hf.2.1 hd hl hn h2 (fun ls2 hl2 => k p e s m args below meth c H locs ls2 hf hP hD hS hl2)
theorem XX.lstore_n {j : Fin 4} {i : Nat} {x : Int64} {lv2 : List (Nat × Value)} (hd : decode M.2.1 pc = .ok (.lstore_n j, 1)) (hi : (j : Nat) = i) (hn : i + 1 < M.2.2.1) (h2 : (i, Value.long x) :: lv.filter (fun q => !(q.1 == i) && (!(q.1 == i + 1) && !(q.1 + 1 == i && q.2.category == 2))) = lv2) (k : XX G M R F cells slots ws (pc + 1) lv2 st) : XX G M R F cells slots ws pc lv (.long x :: st) := by
  intro p e s m args below meth c H locs ls hf hP hD hS hl
  exact lv_lstore_n hf.1 hf.2.1 hd hi hl hn h2 (fun ls2 hl2 => k p e s m args below meth c H locs ls2 hf hP hD hS hl2)
theorem XX.lstore {i : Nat} {x : Int64} {lv2 : List (Nat × Value)} (hd : decode M.2.1 pc = .ok (.lstore i, 2)) (hn : i + 1 < M.2.2.1) (h2 : (i, Value.long x) :: lv.filter (fun q => !(q.1 == i) && (!(q.1 == i + 1) && !(q.1 + 1 == i && q.2.category == 2))) = lv2) (k : XX G M R F cells slots ws (pc + 2) lv2 st) : XX G M R F cells slots ws pc lv (.long x :: st) := by
  intro p e s m args below meth c H locs ls hf hP hD hS hl
  exact lv_lstore hf.1 hf.2.1 hd hl hn h2 (fun ls2 hl2 => k p e s m args below meth c H locs ls2 hf hP hD hS hl2)
theorem XX.astore_n {j : Fin 4} {i : Nat} {x : Nat} {lv2 : List (Nat × Value)} (hd : decode M.2.1 pc = .ok (.astore_n j, 1)) (hi : (j : Nat) = i) (hn : i < M.2.2.1) (h2 : (i, Value.ref x) :: lv.filter (fun q => !(q.1 == i) && !(q.1 + 1 == i && q.2.category == 2)) = lv2) (k : XX G M R F cells slots ws (pc + 1) lv2 st) : XX G M R F cells slots ws pc lv (.ref x :: st) := by
  intro p e s m args below meth c H locs ls hf hP hD hS hl
  exact lv_astore_n hf.1 hf.2.1 hd hi hl hn h2 (fun ls2 hl2 => k p e s m args below meth c H locs ls2 hf hP hD hS hl2)
theorem XX.astore {i : Nat} {x : Nat} {lv2 : List (Nat × Value)} (hd : decode M.2.1 pc = .ok (.astore i, 2)) (hn : i < M.2.2.1) (h2 : (i, Value.ref x) :: lv.filter (fun q => !(q.1 == i) && !(q.1 + 1 == i && q.2.category == 2)) = lv2) (k : XX G M R F cells slots ws (pc + 2) lv2 st) : XX G M R F cells slots ws pc lv (.ref x :: st) := by
  intro p e s m args below meth c H locs ls hf hP hD hS hl
  exact lv_astore hf.1 hf.2.1 hd hl hn h2 (fun ls2 hl2 => k p e s m args below meth c H locs ls2 hf hP hD hS hl2)
theorem XX.iinc {i z : Nat} {n : Int} {x v : Int32} {lv2 : List (Nat × Value)} (hd : decode M.2.1 pc = .ok (.iinc i n, 3)) (hz : lv[z]? = some (i, .int x)) (hv : x + Int32.ofInt n = v) (hn : i < M.2.2.1) (h2 : (i, Value.int v) :: lv.filter (fun q => !(q.1 == i) && !(q.1 + 1 == i && q.2.category == 2)) = lv2) (k : XX G M R F cells slots ws (pc + 3) lv2 st) : XX G M R F cells slots ws pc lv st := by
  intro p e s m args below meth c H locs ls hf hP hD hS hl
  exact lv_iinc hf.1 hf.2.1 hd hl hz hv hn h2 (fun ls2 hl2 => k p e s m args below meth c H locs ls2 hf hP hD hS hl2)
theorem XX.iadd {x y : Int32} (hd : decode M.2.1 pc = .ok (.iadd, 1))  (k : XX G M R F cells slots ws (pc + 1) lv (.int (x + y) :: st)) : XX G M R F cells slots ws pc lv (.int y :: .int x :: st) := by
  intro p e s m args below meth c H locs ls hf hP hD hS hl
  exact lv_iadd hf.1 hf.2.1 hd  (k p e s m args below meth c H locs ls hf hP hD hS hl)
theorem XX.isub {x y : Int32} (hd : decode M.2.1 pc = .ok (.isub, 1))  (k : XX G M R F cells slots ws (pc + 1) lv (.int (x - y) :: st)) : XX G M R F cells slots ws pc lv (.int y :: .int x :: st) := by
  intro p e s m args below meth c H locs ls hf hP hD hS hl
  exact lv_isub hf.1 hf.2.1 hd  (k p e s m args below meth c H locs ls hf hP hD hS hl)
theorem XX.imul {x y : Int32} (hd : decode M.2.1 pc = .ok (.imul, 1))  (k : XX G M R F cells slots ws (pc + 1) lv (.int (x * y) :: st)) : XX G M R F cells slots ws pc lv (.int y :: .int x :: st) := by
  intro p e s m args below meth c H locs ls hf hP hD hS hl
  exact lv_imul hf.1 hf.2.1 hd  (k p e s m args below meth c H locs ls hf hP hD hS hl)
theorem XX.iand {x y : Int32} (hd : decode M.2.1 pc = .ok (.iand, 1))  (k : XX G M R F cells slots ws (pc + 1) lv (.int (x &&& y) :: st)) : XX G M R F cells slots ws pc lv (.int y :: .int x :: st) := by
  intro p e s m args below meth c H locs ls hf hP hD hS hl
  exact lv_iand hf.1 hf.2.1 hd  (k p e s m args below meth c H locs ls hf hP hD hS hl)
theorem XX.ishl {x y : Int32} (hd : decode M.2.1 pc = .ok (.ishl, 1))  (k : XX G M R F cells slots ws (pc + 1) lv (.int (x <<< (y &&& 31)) :: st)) : XX G M R F cells slots ws pc lv (.int y :: .int x :: st) := by
  intro p e s m args below meth c H locs ls hf hP hD hS hl
  exact lv_ishl hf.1 hf.2.1 hd  (k p e s m args below meth c H locs ls hf hP hD hS hl)
theorem XX.ishr {x y : Int32} (hd : decode M.2.1 pc = .ok (.ishr, 1))  (k : XX G M R F cells slots ws (pc + 1) lv (.int (x >>> (y &&& 31)) :: st)) : XX G M R F cells slots ws pc lv (.int y :: .int x :: st) := by
  intro p e s m args below meth c H locs ls hf hP hD hS hl
  exact lv_ishr hf.1 hf.2.1 hd  (k p e s m args below meth c H locs ls hf hP hD hS hl)
theorem XX.idiv {x y : Int32} (hd : decode M.2.1 pc = .ok (.idiv, 1)) (hne : ¬ y = 0) (k : XX G M R F cells slots ws (pc + 1) lv (.int (x / y) :: st)) : XX G M R F cells slots ws pc lv (.int y :: .int x :: st) := by
  intro p e s m args below meth c H locs ls hf hP hD hS hl
  exact lv_idiv hf.1 hf.2.1 hd hne (k p e s m args below meth c H locs ls hf hP hD hS hl)
theorem XX.irem {x y : Int32} (hd : decode M.2.1 pc = .ok (.irem, 1)) (hne : ¬ y = 0) (k : XX G M R F cells slots ws (pc + 1) lv (.int (x - x / y * y) :: st)) : XX G M R F cells slots ws pc lv (.int y :: .int x :: st) := by
  intro p e s m args below meth c H locs ls hf hP hD hS hl
  exact lv_irem hf.1 hf.2.1 hd hne (k p e s m args below meth c H locs ls hf hP hD hS hl)
theorem XX.ineg {x : Int32} (hd : decode M.2.1 pc = .ok (.ineg, 1))  (k : XX G M R F cells slots ws (pc + 1) lv (.int (-x) :: st)) : XX G M R F cells slots ws pc lv (.int x :: st) := by
  intro p e s m args below meth c H locs ls hf hP hD hS hl
  exact lv_ineg hf.1 hf.2.1 hd  (k p e s m args below meth c H locs ls hf hP hD hS hl)
theorem XX.ladd {x y : Int64} (hd : decode M.2.1 pc = .ok (.ladd, 1))  (k : XX G M R F cells slots ws (pc + 1) lv (.long (x + y) :: st)) : XX G M R F cells slots ws pc lv (.long y :: .long x :: st) := by
  intro p e s m args below meth c H locs ls hf hP hD hS hl
  exact lv_ladd hf.1 hf.2.1 hd  (k p e s m args below meth c H locs ls hf hP hD hS hl)
theorem XX.lsub {x y : Int64} (hd : decode M.2.1 pc = .ok (.lsub, 1))  (k : XX G M R F cells slots ws (pc + 1) lv (.long (x - y) :: st)) : XX G M R F cells slots ws pc lv (.long y :: .long x :: st) := by
  intro p e s m args below meth c H locs ls hf hP hD hS hl
  exact lv_lsub hf.1 hf.2.1 hd  (k p e s m args below meth c H locs ls hf hP hD hS hl)
theorem XX.ldiv {x y : Int64} (hd : decode M.2.1 pc = .ok (.ldiv, 1)) (hne : ¬ y = 0) (k : XX G M R F cells slots ws (pc + 1) lv (.long (x / y) :: st)) : XX G M R F cells slots ws pc lv (.long y :: .long x :: st) := by
  intro p e s m args below meth c H locs ls hf hP hD hS hl
  exact lv_ldiv hf.1 hf.2.1 hd hne (k p e s m args below meth c H locs ls hf hP hD hS hl)
theorem XX.lcmp {x y : Int64} (hd : decode M.2.1 pc = .ok (.lcmp, 1))  (k : XX G M R F cells slots ws (pc + 1) lv (.int (lg_cmp x y) :: st)) : XX G M R F cells slots ws pc lv (.long y :: .long x :: st) := by
  intro p e s m args below meth c H locs ls hf hP hD hS hl
  exact W.lcmp hf.1 hf.2.1 hd  (k p e s m args below meth c H locs ls hf hP hD hS hl)
theorem XX.i2l {x : Int32} {v : Int64} (hd : decode M.2.1 pc = .ok (.i2l, 1)) (hv : x.toInt64 = v) (k : XX G M R F cells slots ws (pc + 1) lv (.long v :: st)) : XX G M R F cells slots ws pc lv (.int x :: st) := by
  intro p e s m args below meth c H locs ls hf hP hD hS hl
  exact lv_i2l hf.1 hf.2.1 hd hv (k p e s m args below meth c H locs ls hf hP hD hS hl)
theorem XX.l2i {x : Int64} {v : Int32} (hd : decode M.2.1 pc = .ok (.l2i, 1)) (hv : x.toInt32 = v) (k : XX G M R F cells slots ws (pc + 1) lv (.int v :: st)) : XX G M R F cells slots ws pc lv (.long x :: st) := by
  intro p e s m args below meth c H locs ls hf hP hD hS hl
  exact lv_l2i hf.1 hf.2.1 hd hv (k p e s m args below meth c H locs ls hf hP hD hS hl)
theorem XX.i2b {x : Int32} {v : Int32} (hd : decode M.2.1 pc = .ok (.i2b, 1)) (hv : x.toInt8.toInt32 = v) (k : XX G M R F cells slots ws (pc + 1) lv (.int v :: st)) : XX G M R F cells slots ws pc lv (.int x :: st) := by
  intro p e s m args below meth c H locs ls hf hP hD hS hl
  exact lv_i2b hf.1 hf.2.1 hd hv (k p e s m args below meth c H locs ls hf hP hD hS hl)
theorem XX.dup {va : Value} (hd : decode M.2.1 pc = .ok (.dup, 1)) (h1 : va.category = 1) (k : XX G M R F cells slots ws (pc + 1) lv (va :: va :: st)) : XX G M R F cells slots ws pc lv (va :: st) := by
  intro p e s m args below meth c H locs ls hf hP hD hS hl
  exact lv_dup hf.1 hf.2.1 hd h1 (k p e s m args below meth c H locs ls hf hP hD hS hl)
theorem XX.pop {va : Value} (hd : decode M.2.1 pc = .ok (.pop, 1)) (h1 : va.category = 1) (k : XX G M R F cells slots ws (pc + 1) lv (st)) : XX G M R F cells slots ws pc lv (va :: st) := by
  intro p e s m args below meth c H locs ls hf hP hD hS hl
  exact lv_pop hf.1 hf.2.1 hd h1 (k p e s m args below meth c H locs ls hf hP hD hS hl)
theorem XX.dup_x1 {va vb : Value} (hd : decode M.2.1 pc = .ok (.dup_x1, 1)) (h1 : va.category = 1) (h2 : vb.category = 1) (k : XX G M R F cells slots ws (pc + 1) lv (va :: vb :: va :: st)) : XX G M R F cells slots ws pc lv (va :: vb :: st) := by
  intro p e s m args below meth c H locs ls hf hP hD hS hl
  exact lv_dup_x1 hf.1 hf.2.1 hd h1 h2 (k p e s m args below meth c H locs ls hf hP hD hS hl)
theorem XX.dup_x2 {va vb vd : Value} (hd : decode M.2.1 pc = .ok (.dup_x2, 1)) (h1 : va.category = 1) (h2 : vb.category = 1) (h3 : vd.category = 1) (k : XX G M R F cells slots ws (pc + 1) lv (va :: vb :: vd :: va :: st)) : XX G M R F cells slots ws pc lv (va :: vb :: vd :: st) := by
  intro p e s m args below meth c H locs ls hf hP hD hS hl
  exact lv_dup_x2 hf.1 hf.2.1 hd h1 h2 h3 (k p e s m args below meth c H locs ls hf hP hD hS hl)
theorem XX.dup2 {va vb : Value} (hd : decode M.2.1 pc = .ok (.dup2, 1)) (h1 : va.category = 1) (h2 : vb.category = 1) (k : XX G M R F cells slots ws (pc + 1) lv (va :: vb :: va :: vb :: st)) : XX G M R F cells slots ws pc lv (va :: vb :: st) := by
  intro p e s m args below meth c H locs ls hf hP hD hS hl
  exact lv_dup2_11 hf.1 hf.2.1 hd h1 h2 (k p e s m args below meth c H locs ls hf hP hD hS hl)
theorem XX.ldc {idx : Nat} {v : Int32} (hd : decode M.2.1 pc = .ok (.ldc idx, 2)) (hw : Cond.constant M.1.cls idx v ∈ xw_g) (k : XX G M R F cells slots ws (pc + 2) lv (.int v :: st)) : XX G M R F cells slots ws pc lv st := by
  intro p e s m args below meth c H locs ls hf hP hD hS hl
  exact lv_ldc hf.1 hf.2.1 hf.2.2.2.2.2.1 (hf.2.2.2.2.2.2.2.2.1 _ hw args) hd (k p e s m args below meth c H locs ls hf hP hD hS hl)
theorem XX.goto {off : Int} {tgt : Nat} (hd : decode M.2.1 pc = .ok (.goto off, 3)) (ht : (pc : Int) + off = (tgt : Int)) (k : XX G M R F cells slots ws tgt lv st) : XX G M R F cells slots ws pc lv st := by
  intro p e s m args below meth c H locs ls hf hP hD hS hl
  exact lv_goto hf.1 hf.2.1 hd ht (k p e s m args below meth c H locs ls hf hP hD hS hl)
theorem XX.icmp_eq {x y : Int32} {off : Int} {tgt : Nat} (hd : decode M.2.1 pc = .ok (.if_icmp .eq off, 3)) (ht : (pc : Int) + off = (tgt : Int)) (kt : x = y → XX G M R F cells slots ws tgt lv st) (kf : ¬ x = y → XX G M R F cells slots ws (pc + 3) lv st) : XX G M R F cells slots ws pc lv (.int y :: .int x :: st) := by
  intro p e s m args below meth c H locs ls hf hP hD hS hl
  exact lv_icmp_eq hf.1 hf.2.1 hd ht (fun h => kt h p e s m args below meth c H locs ls hf hP hD hS hl) (fun h => kf h p e s m args below meth c H locs ls hf hP hD hS hl)
theorem XX.if_eq {x : Int32} {off : Int} {tgt : Nat} (hd : decode M.2.1 pc = .ok (.ifCond .eq off, 3)) (ht : (pc : Int) + off = (tgt : Int)) (kt : x = 0 → XX G M R F cells slots ws tgt lv st) (kf : ¬ x = 0 → XX G M R F cells slots ws (pc + 3) lv st) : XX G M R F cells slots ws pc lv (.int x :: st) := by
  intro p e s m args below meth c H locs ls hf hP hD hS hl
  exact lv_if_eq hf.1 hf.2.1 hd ht (fun h => kt h p e s m args below meth c H locs ls hf hP hD hS hl) (fun h => kf h p e s m args below meth c H locs ls hf hP hD hS hl)
theorem XX.ncmp_eq {a b : Nat} {off : Int} {tgt : Nat} (hd : decode M.2.1 pc = .ok (.if_icmp .eq off, 3)) (ht : (pc : Int) + off = (tgt : Int)) (ha : a < 2 ^ 31) (hb : b < 2 ^ 31) (kt : a = b → XX G M R F cells slots ws tgt lv st) (kf : a ≠ b → XX G M R F cells slots ws (pc + 3) lv st) : XX G M R F cells slots ws pc lv (.int (nI b) :: .int (nI a) :: st) := by
  have z := pk_eq (x := nI a) (y := nI b) a b (A := XX G M R F cells slots ws tgt lv st) (B := XX G M R F cells slots ws (pc + 3) lv st) (fun h => kt h) (fun h => kf h) rfl rfl ha hb
  exact XX.icmp_eq hd ht z.1 z.2
theorem XX.nif_eq {a : Nat} {off : Int} {tgt : Nat} (hd : decode M.2.1 pc = .ok (.ifCond .eq off, 3)) (ht : (pc : Int) + off = (tgt : Int)) (ha : a < 2 ^ 31) (kt : a = 0 → XX G M R F cells slots ws tgt lv st) (kf : 0 < a → XX G M R F cells slots ws (pc + 3) lv st) : XX G M R F cells slots ws pc lv (.int (nI a) :: st) := by
  have z := pk_eq (x := nI a) (y := (0 : Int32)) a 0 (A := XX G M R F cells slots ws tgt lv st) (B := XX G M R F cells slots ws (pc + 3) lv st) (fun h => kt (by omega)) (fun h => kf (by omega)) rfl rfl ha (by decide)
  exact XX.if_eq hd ht z.1 z.2
theorem XX.icmp_ne {x y : Int32} {off : Int} {tgt : Nat} (hd : decode M.2.1 pc = .ok (.if_icmp .ne off, 3)) (ht : (pc : Int) + off = (tgt : Int)) (kt : ¬ x = y → XX G M R F cells slots ws tgt lv st) (kf : x = y → XX G M R F cells slots ws (pc + 3) lv st) : XX G M R F cells slots ws pc lv (.int y :: .int x :: st) := by
  intro p e s m args below meth c H locs ls hf hP hD hS hl
  exact lv_icmp_ne hf.1 hf.2.1 hd ht (fun h => kt h p e s m args below meth c H locs ls hf hP hD hS hl) (fun h => kf h p e s m args below meth c H locs ls hf hP hD hS hl)
theorem XX.if_ne {x : Int32} {off : Int} {tgt : Nat} (hd : decode M.2.1 pc = .ok (.ifCond .ne off, 3)) (ht : (pc : Int) + off = (tgt : Int)) (kt : ¬ x = 0 → XX G M R F cells slots ws tgt lv st) (kf : x = 0 → XX G M R F cells slots ws (pc + 3) lv st) : XX G M R F cells slots ws pc lv (.int x :: st) := by
  intro p e s m args below meth c H locs ls hf hP hD hS hl
  exact lv_if_ne hf.1 hf.2.1 hd ht (fun h => kt h p e s m args below meth c H locs ls hf hP hD hS hl) (fun h => kf h p e s m args below meth c H locs ls hf hP hD hS hl)
theorem XX.ncmp_ne {a b : Nat} {off : Int} {tgt : Nat} (hd : decode M.2.1 pc = .ok (.if_icmp .ne off, 3)) (ht : (pc : Int) + off = (tgt : Int)) (ha : a < 2 ^ 31) (hb : b < 2 ^ 31) (kt : a ≠ b → XX G M R F cells slots ws tgt lv st) (kf : a = b → XX G M R F cells slots ws (pc + 3) lv st) : XX G M R F cells slots ws pc lv (.int (nI b) :: .int (nI a) :: st) := by
  have z := pk_eq (x := nI a) (y := nI b) a b (A := XX G M R F cells slots ws (pc + 3) lv st) (B := XX G M R F cells slots ws tgt lv st) (fun h => kf h) (fun h => kt h) rfl rfl ha hb
  exact XX.icmp_ne hd ht z.2 z.1
theorem XX.nif_ne {a : Nat} {off : Int} {tgt : Nat} (hd : decode M.2.1 pc = .ok (.ifCond .ne off, 3)) (ht : (pc : Int) + off = (tgt : Int)) (ha : a < 2 ^ 31) (kt : 0 < a → XX G M R F cells slots ws tgt lv st) (kf : a = 0 → XX G M R F cells slots ws (pc + 3) lv st) : XX G M R F cells slots ws pc lv (.int (nI a) :: st) := by
  have z := pk_eq (x := nI a) (y := (0 : Int32)) a 0 (A := XX G M R F cells slots ws (pc + 3) lv st) (B := XX G M R F cells slots ws tgt lv st) (fun h => kf (by omega)) (fun h => kt (by omega)) rfl rfl ha (by decide)
  exact XX.if_ne hd ht z.2 z.1
theorem XX.icmp_lt {x y : Int32} {off : Int} {tgt : Nat} (hd : decode M.2.1 pc = .ok (.if_icmp .lt off, 3)) (ht : (pc : Int) + off = (tgt : Int)) (kt : x < y → XX G M R F cells slots ws tgt lv st) (kf : ¬ x < y → XX G M R F cells slots ws (pc + 3) lv st) : XX G M R F cells slots ws pc lv (.int y :: .int x :: st) := by
  intro p e s m args below meth c H locs ls hf hP hD hS hl
  exact lv_icmp_lt hf.1 hf.2.1 hd ht (fun h => kt h p e s m args below meth c H locs ls hf hP hD hS hl) (fun h => kf h p e s m args below meth c H locs ls hf hP hD hS hl)
theorem XX.if_lt {x : Int32} {off : Int} {tgt : Nat} (hd : decode M.2.1 pc = .ok (.ifCond .lt off, 3)) (ht : (pc : Int) + off = (tgt : Int)) (kt : x < 0 → XX G M R F cells slots ws tgt lv st) (kf : ¬ x < 0 → XX G M R F cells slots ws (pc + 3) lv st) : XX G M R F cells slots ws pc lv (.int x :: st) := by
  intro p e s m args below meth c H locs ls hf hP hD hS hl
  exact lv_if_lt hf.1 hf.2.1 hd ht (fun h => kt h p e s m args below meth c H locs ls hf hP hD hS hl) (fun h => kf h p e s m args below meth c H locs ls hf hP hD hS hl)
theorem XX.ncmp_lt {a b : Nat} {off : Int} {tgt : Nat} (hd : decode M.2.1 pc = .ok (.if_icmp .lt off, 3)) (ht : (pc : Int) + off = (tgt : Int)) (ha : a < 2 ^ 31) (hb : b < 2 ^ 31) (kt : a < b → XX G M R F cells slots ws tgt lv st) (kf : b ≤ a → XX G M R F cells slots ws (pc + 3) lv st) : XX G M R F cells slots ws pc lv (.int (nI b) :: .int (nI a) :: st) := by
  have z := pk_lt (x := nI a) (y := nI b) a b (A := XX G M R F cells slots ws tgt lv st) (B := XX G M R F cells slots ws (pc + 3) lv st) (fun h => kt h) (fun h => kf h) rfl rfl ha hb
  exact XX.icmp_lt hd ht z.1 z.2
theorem XX.icmp_ge {x y : Int32} {off : Int} {tgt : Nat} (hd : decode M.2.1 pc = .ok (.if_icmp .ge off, 3)) (ht : (pc : Int) + off = (tgt : Int)) (kt : y ≤ x → XX G M R F cells slots ws tgt lv st) (kf : ¬ y ≤ x → XX G M R F cells slots ws (pc + 3) lv st) : XX G M R F cells slots ws pc lv (.int y :: .int x :: st) := by
  intro p e s m args below meth c H locs ls hf hP hD hS hl
  exact lv_icmp_ge hf.1 hf.2.1 hd ht (fun h => kt h p e s m args below meth c H locs ls hf hP hD hS hl) (fun h => kf h p e s m args below meth c H locs ls hf hP hD hS hl)
theorem XX.if_ge {x : Int32} {off : Int} {tgt : Nat} (hd : decode M.2.1 pc = .ok (.ifCond .ge off, 3)) (ht : (pc : Int) + off = (tgt : Int)) (kt : 0 ≤ x → XX G M R F cells slots ws tgt lv st) (kf : ¬ 0 ≤ x → XX G M R F cells slots ws (pc + 3) lv st) : XX G M R F cells slots ws pc lv (.int x :: st) := by
  intro p e s m args below meth c H locs ls hf hP hD hS hl
  exact lv_if_ge hf.1 hf.2.1 hd ht (fun h => kt h p e s m args below meth c H locs ls hf hP hD hS hl) (fun h => kf h p e s m args below meth c H locs ls hf hP hD hS hl)
theorem XX.ncmp_ge {a b : Nat} {off : Int} {tgt : Nat} (hd : decode M.2.1 pc = .ok (.if_icmp .ge off, 3)) (ht : (pc : Int) + off = (tgt : Int)) (ha : a < 2 ^ 31) (hb : b < 2 ^ 31) (kt : b ≤ a → XX G M R F cells slots ws tgt lv st) (kf : a < b → XX G M R F cells slots ws (pc + 3) lv st) : XX G M R F cells slots ws pc lv (.int (nI b) :: .int (nI a) :: st) := by
  have z := pk_le (x := nI b) (y := nI a) b a (A := XX G M R F cells slots ws tgt lv st) (B := XX G M R F cells slots ws (pc + 3) lv st) (fun h => kt h) (fun h => kf h) rfl rfl hb ha
  exact XX.icmp_ge hd ht z.1 z.2
theorem XX.icmp_gt {x y : Int32} {off : Int} {tgt : Nat} (hd : decode M.2.1 pc = .ok (.if_icmp .gt off, 3)) (ht : (pc : Int) + off = (tgt : Int)) (kt : y < x → XX G M R F cells slots ws tgt lv st) (kf : ¬ y < x → XX G M R F cells slots ws (pc + 3) lv st) : XX G M R F cells slots ws pc lv (.int y :: .int x :: st) := by
  intro p e s m args below meth c H locs ls hf hP hD hS hl
  exact lv_icmp_gt hf.1 hf.2.1 hd ht (fun h => kt h p e s m args below meth c H locs ls hf hP hD hS hl) (fun h => kf h p e s m args below meth c H locs ls hf hP hD hS hl)
theorem XX.if_gt {x : Int32} {off : Int} {tgt : Nat} (hd : decode M.2.1 pc = .ok (.ifCond .gt off, 3)) (ht : (pc : Int) + off = (tgt : Int)) (kt : 0 < x → XX G M R F cells slots ws tgt lv st) (kf : ¬ 0 < x → XX G M R F cells slots ws (pc + 3) lv st) : XX G M R F cells slots ws pc lv (.int x :: st) := by
  intro p e s m args below meth c H locs ls hf hP hD hS hl
  exact lv_if_gt hf.1 hf.2.1 hd ht (fun h => kt h p e s m args below meth c H locs ls hf hP hD hS hl) (fun h => kf h p e s m args below meth c H locs ls hf hP hD hS hl)
theorem XX.ncmp_gt {a b : Nat} {off : Int} {tgt : Nat} (hd : decode M.2.1 pc = .ok (.if_icmp .gt off, 3)) (ht : (pc : Int) + off = (tgt : Int)) (ha : a < 2 ^ 31) (hb : b < 2 ^ 31) (kt : b < a → XX G M R F cells slots ws tgt lv st) (kf : a ≤ b → XX G M R F cells slots ws (pc + 3) lv st) : XX G M R F cells slots ws pc lv (.int (nI b) :: .int (nI a) :: st) := by
  have z := pk_lt (x := nI b) (y := nI a) b a (A := XX G M R F cells slots ws tgt lv st) (B := XX G M R F cells slots ws (pc + 3) lv st) (fun h => kt h) (fun h => kf h) rfl rfl hb ha
  exact XX.icmp_gt hd ht z.1 z.2
theorem XX.nif_gt {a : Nat} {off : Int} {tgt : Nat} (hd : decode M.2.1 pc = .ok (.ifCond .gt off, 3)) (ht : (pc : Int) + off = (tgt : Int)) (ha : a < 2 ^ 31) (kt : 0 < a → XX G M R F cells slots ws tgt lv st) (kf : a = 0 → XX G M R F cells slots ws (pc + 3) lv st) : XX G M R F cells slots ws pc lv (.int (nI a) :: st) := by
  have z := pk_lt (x := (0 : Int32)) (y := nI a) 0 a (A := XX G M R F cells slots ws tgt lv st) (B := XX G M R F cells slots ws (pc + 3) lv st) (fun h => kt (by omega)) (fun h => kf (by omega)) rfl rfl (by decide) ha
  exact XX.if_gt hd ht z.1 z.2
theorem XX.icmp_le {x y : Int32} {off : Int} {tgt : Nat} (hd : decode M.2.1 pc = .ok (.if_icmp .le off, 3)) (ht : (pc : Int) + off = (tgt : Int)) (kt : x ≤ y → XX G M R F cells slots ws tgt lv st) (kf : ¬ x ≤ y → XX G M R F cells slots ws (pc + 3) lv st) : XX G M R F cells slots ws pc lv (.int y :: .int x :: st) := by
  intro p e s m args below meth c H locs ls hf hP hD hS hl
  exact lv_icmp_le hf.1 hf.2.1 hd ht (fun h => kt h p e s m args below meth c H locs ls hf hP hD hS hl) (fun h => kf h p e s m args below meth c H locs ls hf hP hD hS hl)
theorem XX.if_le {x : Int32} {off : Int} {tgt : Nat} (hd : decode M.2.1 pc = .ok (.ifCond .le off, 3)) (ht : (pc : Int) + off = (tgt : Int)) (kt : x ≤ 0 → XX G M R F cells slots ws tgt lv st) (kf : ¬ x ≤ 0 → XX G M R F cells slots ws (pc + 3) lv st) : XX G M R F cells slots ws pc lv (.int x :: st) := by
  intro p e s m args below meth c H locs ls hf hP hD hS hl
  exact lv_if_le hf.1 hf.2.1 hd ht (fun h => kt h p e s m args below meth c H locs ls hf hP hD hS hl) (fun h => kf h p e s m args below meth c H locs ls hf hP hD hS hl)
theorem XX.ncmp_le {a b : Nat} {off : Int} {tgt : Nat} (hd : decode M.2.1 pc = .ok (.if_icmp .le off, 3)) (ht : (pc : Int) + off = (tgt : Int)) (ha : a < 2 ^ 31) (hb : b < 2 ^ 31) (kt : a ≤ b → XX G M R F cells slots ws tgt lv st) (kf : b < a → XX G M R F cells slots ws (pc + 3) lv st) : XX G M R F cells slots ws pc lv (.int (nI b) :: .int (nI a) :: st) := by
  have z := pk_le (x := nI a) (y := nI b) a b (A := XX G M R F cells slots ws tgt lv st) (B := XX G M R F cells slots ws (pc + 3) lv st) (fun h => kt h) (fun h => kf h) rfl rfl ha hb
  exact XX.icmp_le hd ht z.1 z.2
theorem XX.nif_le {a : Nat} {off : Int} {tgt : Nat} (hd : decode M.2.1 pc = .ok (.ifCond .le off, 3)) (ht : (pc : Int) + off = (tgt : Int)) (ha : a < 2 ^ 31) (kt : a = 0 → XX G M R F cells slots ws tgt lv st) (kf : 0 < a → XX G M R F cells slots ws (pc + 3) lv st) : XX G M R F cells slots ws pc lv (.int (nI a) :: st) := by
  have z := pk_le (x := nI a) (y := (0 : Int32)) a 0 (A := XX G M R F cells slots ws tgt lv st) (B := XX G M R F cells slots ws (pc + 3) lv st) (fun h => kt (by omega)) (fun h => kf (by omega)) rfl rfl ha (by decide)
  exact XX.if_le hd ht z.1 z.2
theorem XX.tabIn {dflt lo hi : Int} {offs : Array Int} {len : Nat} {x : Int32} {off : Int} {tgt : Nat} (hd : decode M.2.1 pc = .ok (.tableswitch dflt lo hi offs, len)) (h1 : ¬ x.toInt < lo) (h2 : ¬ hi < x.toInt) (ho : offs[(x.toInt - lo).toNat]? = some off) (ht : (pc : Int) + off = (tgt : Int)) (k : XX G M R F cells slots ws tgt lv st) : XX G M R F cells slots ws pc lv (.int x :: st) := by
  intro p e s m args below meth c H locs ls hf hP hD hS hl
  exact lv_tableIn hf.1 hf.2.1 hd h1 h2 ho ht (k p e s m args below meth c H locs ls hf hP hD hS hl)
theorem XX.tabOut {dflt lo hi : Int} {offs : Array Int} {len : Nat} {x : Int32} {tgt : Nat} (hd : decode M.2.1 pc = .ok (.tableswitch dflt lo hi offs, len)) (h : x.toInt < lo ∨ hi < x.toInt) (ht : (pc : Int) + dflt = (tgt : Int)) (k : XX G M R F cells slots ws tgt lv st) : XX G M R F cells slots ws pc lv (.int x :: st) := by
  intro p e s m args below meth c H locs ls hf hP hD hS hl
  exact lv_tableOut hf.1 hf.2.1 hd h ht (k p e s m args below meth c H locs ls hf hP hD hS hl)
theorem XX.tp {x y : Int32} (h : x = y) (k : XX G M R F cells slots ws pc lv (.int y :: st)) : XX G M R F cells slots ws pc lv (.int x :: st) := by rw [h]; exact k
theorem XX.cg {ws2 : va_W} {lv2 : List (Nat × Value)} {st2 : List Value} (h1 : ws = ws2) (h2 : lv = lv2) (h3 : st = st2) (k : XX G M R F cells slots ws2 pc lv2 st2) : XX G M R F cells slots ws pc lv st := by rw [h1, h2, h3]; exact k
/-- fewer locals -/
theorem XX.lvs {lv2 : List (Nat × Value)} (is : List Nat) (h : lv_pick lv is = lv2) (k : XX G M R F cells slots ws pc lv2 st) : XX G M R F cells slots ws pc lv st := by
  intro p e s m args below meth c H locs ls hf hP hD hS hl
  exact k p e s m args below meth c H locs ls hf hP hD hS (lv_sub hl is h)
/-- another world: a part, or in another order -/
theorem XX.sub {ws2 : va_W} (is : List Nat) (h1 : is.filterMap (fun i => ws[i]?) = ws2) (hn : va_nd is = true) (h2 : is.map (fun i => ws[i]?) = ws2.map some) (k : XX G M R F cells slots ws2 pc lv st) : XX G M R F cells slots ws pc lv st := by
  intro p e s m args below meth c H locs ls hf hP hD hS hl
  exact k p e s m args below meth c H locs ls hf (hP.sub is h1) (hD.sub is hn h2) hS hl
theorem XX.wm {ws2 : va_W} (h1 : ∀ H : Heap, va_P G.1 xc_cl ws H → va_P G.1 xc_cl ws2 H) (h2 : va_D (xg_A G) ws → va_D (xg_A G) ws2) (k : XX G M R F cells slots ws2 pc lv st) : XX G M R F cells slots ws pc lv st := by
  intro p e s m args below meth c H locs ls hf hP hD hS hl
  exact k p e s m args below meth c H locs ls hf (h1 H hP) (h2 hD) hS hl
theorem XX.apart {a b : Nat} {q0 q1 : Nat} {x y : va_E} (h0 : ws[q0]? = some (a, x)) (h1 : ws[q1]? = some (b, y)) (hne : q0 ≠ q1) (k : a ≠ b → XX G M R F cells slots ws pc lv st) : XX G M R F cells slots ws pc lv st := by
  intro p e s m args below meth c H locs ls hf hP hD hS hl
  exact k (fun h => hne (hD.1 q0 q1 _ _ h0 h1 h)) p e s m args below meth c H locs ls hf hP hD hS hl
theorem XX.widen {c2 s2 : Nat} (h1 : cells ≤ c2) (h2 : slots ≤ s2) (k : XX G M R F c2 s2 ws pc lv st) : XX G M R F cells slots ws pc lv st := by
  intro p e s m args below meth c H locs ls hf hP hD hS hl
  exact W.widen h1 h2 (k p e s m args below meth c H locs ls hf hP hD hS hl)
theorem XX.get {idx ci f q0 a : Nat} {fs : List Value} {v : Value} (hl0 : xx_fl M.1.cls idx ci f) (hd : decode M.2.1 pc = .ok (.getfield idx, 3)) (he : ws[q0]? = some (a, .inr (ci, fs))) (hv : fs[f]? = some v) (k : XX G M R F cells slots ws (pc + 3) lv (v :: st)) : XX G M R F cells slots ws pc lv (.ref a :: st) := by
  intro p e s m args below meth c H locs ls hf hP hD hS hl
  obtain ⟨C, T, N, ty, hcf, hk, hlk⟩ := hl0
  have hen := hf.2.2.2.2.2.2.2.2
  have hts : ∀ w ∈ xw_g, w.before args s = true := fun w h => hen.1 w h args
  rcases hlk with hlk | ⟨host, hlk⟩
  · exact va_get (D := G.1) hf.1 hf.2.1 hts hcf.2.1 hf.2.2.2.2.2.1 hen.2.2 hP q0 he hcf.1 f hk (hts _ hlk) (fun _ h => h) hv hd (k p e s m args below meth c H locs ls hf hP hD hS hl)
  · exact va_getN (D := G.1) hf.1 hf.2.1 hts hcf.2.1 hf.2.2.2.2.2.1 hen.2.2 hP q0 he hcf.1 f hk (va_Nw.use rfl (hen.2.1.1 _ hlk)) (fun _ h => h) hv hd (k p e s m args below meth c H locs ls hf hP hD hS hl)
theorem XX.put {idx ci f q0 a : Nat} {fs : List Value} {t : FieldType} {v : Value} {ws2 : va_W} (hl0 : xx_fp M.1.cls idx ci f t) (hd : decode M.2.1 pc = .ok (.putfield idx, 3)) (he : ws[q0]? = some (a, .inr (ci, fs))) (hn : narrow t v = v) (hfit : fits t v = true) (hlt : f < fs.length) (h2 : ws.set q0 (a, .inr (ci, fs.set f v)) = ws2) (k : XX G M R F cells slots ws2 (pc + 3) lv st) : XX G M R F cells slots ws pc lv (v :: .ref a :: st) := by
  intro p e s m args below meth c H locs ls hf hP hD hS hl
  subst h2
  obtain ⟨C, T, N, ty, hcf, hk, hfin, htt, hlk⟩ := hl0
  have hen := hf.2.2.2.2.2.2.2.2
  have hts : ∀ w ∈ xw_g, w.before args s = true := fun w h => hen.1 w h args
  rcases hlk with hlk | ⟨host, hlk⟩
  · exact va_put (D := G.1) hf.1 hf.2.1 hts hcf.2.1 ty hcf.2.2.1 hcf.2.2.2 hf.2.2.2.2.2.1 hen.2.2 hP hD hS q0 he hcf.1 f hk (hts _ hlk) (fun _ h => h) hfin htt hn hfit hlt hd (fun H1 locs1 hP1 hD1 hS1 => k p e s m args below meth c H1 locs1 ls hf hP1 hD1 hS1 hl)
  · exact va_putN (D := G.1) hf.1 hf.2.1 hts hcf.2.1 ty hcf.2.2.1 hcf.2.2.2 hf.2.2.2.2.2.1 hen.2.2 hP hD hS q0 he hcf.1 f hk (va_Nw.use rfl (hen.2.1.1 _ hlk)) (fun _ h => h) hfin htt hn hfit hlt hd (fun H1 locs1 hP1 hD1 hS1 => k p e s m args below meth c H1 locs1 ls hf hP1 hD1 hS1 hl)
theorem XX.putF {idx ci f q0 a : Nat} {fs : List Value} {t : FieldType} {v : Value} {ws2 : va_W} (hl0 : xx_ff M.1.cls idx ci f t) (hin : M.1.name = "<init>") (hd : decode M.2.1 pc = .ok (.putfield idx, 3)) (he : ws[q0]? = some (a, .inr (ci, fs))) (hn : narrow t v = v) (hfit : fits t v = true) (hlt : f < fs.length) (h2 : ws.set q0 (a, .inr (ci, fs.set f v)) = ws2) (k : XX G M R F cells slots ws2 (pc + 3) lv st) : XX G M R F cells slots ws pc lv (v :: .ref a :: st) := by
  intro p e s m args below meth c H locs ls hf hP hD hS hl
  subst h2
  obtain ⟨C, T, N, ty, hcf, hk, hfin, hown, htt, hlk⟩ := hl0
  have hen := hf.2.2.2.2.2.2.2.2
  have hts : ∀ w ∈ xw_g, w.before args s = true := fun w h => hen.1 w h args
  have hin9 : meth.name = "<init>" := by
    rcases hf.2.2.2.2.2.2.1 with h | h
    · exact h.1.trans hin
    · rw [hin] at h; exact absurd h (by decide)
  exact va_putF (D := G.1) hf.1 hf.2.1 hts hcf.2.1 ty hcf.2.2.1 hcf.2.2.2 hf.2.2.2.2.2.1 hen.2.2 hP hD hS q0 he hcf.1 f hk (hts _ hlk) (fun _ h => h) hfin hin9 hown htt hn hfit hlt hd (fun H1 locs1 hP1 hD1 hS1 => k p e s m args below meth c H1 locs1 ls hf hP1 hD1 hS1 hl)
theorem XX.new {idx ci N : Nat} {fs : List Value} (h0 : xx_nw M.1.cls idx ci fs N) (hd : decode M.2.1 pc = .ok (.new idx, 3)) (hc : cells + 1 ≤ R.cells ∧ slots + N ≤ R.slots) (k : ∀ q : Nat, XX G M R F (cells + 1) (slots + N) (ws ++ [(q, .inr (ci, fs))]) (pc + 3) lv (.ref q :: st)) : XX G M R F cells slots ws pc lv st := by
  intro p e s m args below meth c H locs ls hf hP hD hS hl
  obtain ⟨C, T, ty, hcf, h1, h2, h3, h4⟩ := h0
  have hen := hf.2.2.2.2.2.2.2.2
  have hts : ∀ w ∈ xw_g, w.before args s = true := fun w h => hen.1 w h args
  exact va_new (D := G.1) hf.1 hf.2.1 hts hcf.2.1 ty hcf.2.2.1 hf.2.2.2.2.2.1 (hts _ h1) (hts _ h2) (hts _ h3) hen.2.2 hP hD hS (fun q h => Nat.le_trans hf.2.2.2.2.2.2.2.1 h) hcf.1 h4 hc.1 hc.2 hd (fun q H1 hP1 hD1 hS1 => k q p e s m args below meth c H1 locs ls hf hP1 hD1 hS1 hl)
theorem XX.iald {q0 a n j : Nat} {f : Nat → Int32} (hd : decode M.2.1 pc = .ok (.iaload, 1)) (he : ws[q0]? = some (a, .inl (G.2.1 1, n, .inl f))) (hj : j < n) (hn : n < 2 ^ 31) (k : XX G M R F cells slots ws (pc + 1) lv (.int (f j) :: st)) : XX G M R F cells slots ws pc lv (.int (nI j) :: .ref a :: st) := by
  intro p e s m args below meth c H locs ls hf hP hD hS hl
  refine va_iald (D := G.1) hf.1 hf.2.1 hf.2.2.2.2.2.2.2.2.2.2 hP q0 1 he rfl (pk_in j n hj rfl hn) hd ?_
  rw [pk_cl j rfl (by omega)]
  exact k p e s m args below meth c H locs ls hf hP hD hS hl
theorem XX.bald {q0 a n j : Nat} {f : Nat → Int32} (hd : decode M.2.1 pc = .ok (.baload, 1)) (he : ws[q0]? = some (a, .inl (G.2.1 0, n, .inl f))) (hj : j < n) (hn : n < 2 ^ 31) (k : XX G M R F cells slots ws (pc + 1) lv (.int (f j) :: st)) : XX G M R F cells slots ws pc lv (.int (nI j) :: .ref a :: st) := by
  intro p e s m args below meth c H locs ls hf hP hD hS hl
  refine va_bald (D := G.1) hf.1 hf.2.1 hf.2.2.2.2.2.2.2.2.2.2 hP q0 0 he rfl (pk_in j n hj rfl hn) hd ?_
  rw [pk_cl j rfl (by omega)]
  exact k p e s m args below meth c H locs ls hf hP hD hS hl
theorem XX.lald {q0 a n j : Nat} {f : Nat → Int64} (hd : decode M.2.1 pc = .ok (.laload, 1)) (he : ws[q0]? = some (a, .inl (G.2.1 2, n, .inr (.inl f)))) (hj : j < n) (hn : n < 2 ^ 31) (k : XX G M R F cells slots ws (pc + 1) lv (.long (f j) :: st)) : XX G M R F cells slots ws pc lv (.int (nI j) :: .ref a :: st) := by
  intro p e s m args below meth c H locs ls hf hP hD hS hl
  refine va_lald (D := G.1) hf.1 hf.2.1 hf.2.2.2.2.2.2.2.2.2.2 hP q0 2 he rfl (pk_in j n hj rfl hn) hd ?_
  rw [pk_cl j rfl (by omega)]
  exact k p e s m args below meth c H locs ls hf hP hD hS hl
theorem XX.iast {q0 a n j : Nat} {f : Nat → Int32} {x : Int32} {ws2 : va_W} (hd : decode M.2.1 pc = .ok (.iastore, 1)) (he : ws[q0]? = some (a, .inl (G.2.1 1, n, .inl f))) (hj : j < n) (hn : n < 2 ^ 31) (h2 : ws.set q0 (a, .inl (G.2.1 1, n, .inl (upd f j x))) = ws2) (k : XX G M R F cells slots ws2 (pc + 1) lv st) : XX G M R F cells slots ws pc lv (.int x :: .int (nI j) :: .ref a :: st) := by
  intro p e s m args below meth c H locs ls hf hP hD hS hl
  subst h2
  refine va_iast (D := G.1) hf.1 hf.2.1 hf.2.2.2.2.2.2.2.2.2.2 hP hD hS q0 1 he rfl (pk_in j n hj rfl hn) hd ?_
  rw [pk_cl j rfl (by omega)]
  exact (fun H1 locs1 hP1 hD1 hS1 => k p e s m args below meth c H1 locs1 ls hf hP1 hD1 hS1 hl)
theorem XX.bast {q0 a n j : Nat} {f : Nat → Int32} {x : Int32} {ws2 : va_W} (hd : decode M.2.1 pc = .ok (.bastore, 1)) (he : ws[q0]? = some (a, .inl (G.2.1 0, n, .inl f))) (hj : j < n) (hn : n < 2 ^ 31) (h2 : ws.set q0 (a, .inl (G.2.1 0, n, .inl (upd f j (vp_nar .byte x)))) = ws2) (k : XX G M R F cells slots ws2 (pc + 1) lv st) : XX G M R F cells slots ws pc lv (.int x :: .int (nI j) :: .ref a :: st) := by
  intro p e s m args below meth c H locs ls hf hP hD hS hl
  subst h2
  refine va_bast (D := G.1) hf.1 hf.2.1 hf.2.2.2.2.2.2.2.2.2.2 hP hD hS q0 0 he rfl (pk_in j n hj rfl hn) hd ?_
  rw [pk_cl j rfl (by omega)]
  exact (fun H1 locs1 hP1 hD1 hS1 => k p e s m args below meth c H1 locs1 ls hf hP1 hD1 hS1 hl)
theorem XX.last {q0 a n j : Nat} {f : Nat → Int64} {x : Int64} {ws2 : va_W} (hd : decode M.2.1 pc = .ok (.lastore, 1)) (he : ws[q0]? = some (a, .inl (G.2.1 2, n, .inr (.inl f)))) (hj : j < n) (hn : n < 2 ^ 31) (h2 : ws.set q0 (a, .inl (G.2.1 2, n, .inr (.inl (vp_updL f j x)))) = ws2) (k : XX G M R F cells slots ws2 (pc + 1) lv st) : XX G M R F cells slots ws pc lv (.long x :: .int (nI j) :: .ref a :: st) := by
  intro p e s m args below meth c H locs ls hf hP hD hS hl
  subst h2
  refine va_last (D := G.1) hf.1 hf.2.1 hf.2.2.2.2.2.2.2.2.2.2 hP hD hS q0 2 he rfl (pk_in j n hj rfl hn) hd ?_
  rw [pk_cl j rfl (by omega)]
  exact (fun H1 locs1 hP1 hD1 hS1 => k p e s m args below meth c H1 locs1 ls hf hP1 hD1 hS1 hl)
theorem XX.aald {q0 a n j : Nat} {f : Nat → Option Nat} (hd : decode M.2.1 pc = .ok (.aaload, 1)) (he : ws[q0]? = some (a, .inl (G.2.1 3, n, .inr (.inr (.inr (.inr f)))))) (hj : j < n) (hn : n < 2 ^ 31) (k : XX G M R F cells slots ws (pc + 1) lv (va_rf (f j) :: st)) : XX G M R F cells slots ws pc lv (.int (nI j) :: .ref a :: st) := by
  intro p e s m args below meth c H locs ls hf hP hD hS hl
  refine va_aldq (D := G.1) hf.1 hf.2.1 hf.2.2.2.2.2.2.2.2.2.2 hP q0 3 he rfl (pk_in j n hj rfl hn) hd ?_
  rw [pk_cl j rfl (by omega)]
  exact k p e s m args below meth c H locs ls hf hP hD hS hl
theorem XX.aast {q0 qk a n j v : Nat} {vs : List Value} {f : Nat → Option Nat} {r : vw_C} {ws2 : va_W} {ci : Nat} (hd : decode M.2.1 pc = .ok (.aastore, 1)) (he : ws[q0]? = some (a, .inl (G.2.1 3, n, .inr (.inr (.inr (.inr f)))))) (hv : ws[qk]? = some (v, .inr (ci, vs))) (hc : xc_cl[ci]? = some r) (hr : r.1 = "LineSorter$Key") (hj : j < n) (hn : n < 2 ^ 31) (h2 : ws.set q0 (a, .inl (G.2.1 3, n, .inr (.inr (.inr (.inr (va_up f j (some v))))))) = ws2) (k : XX G M R F cells slots ws2 (pc + 1) lv st) : XX G M R F cells slots ws pc lv (.ref v :: .int (nI j) :: .ref a :: st) := by
  intro p e s m args below meth c H locs ls hf hP hD hS hl
  subst h2
  refine va_astq (D := G.1) (r := r) (v := v) hf.1 hf.2.1 hf.2.2.2.2.2.2.2.2.2.2 hP hD hS q0 3 qk ci he (by rw [hr]; rfl) hv hc (pk_in j n hj rfl hn) hd ?_
  rw [pk_cl j rfl (by omega)]
  exact (fun H1 locs1 hP1 hD1 hS1 => k p e s m args below meth c H1 locs1 ls hf hP1 hD1 hS1 hl)
theorem XX.alen {q0 a t0 : Nat} {x : vp_A} {ty : FieldType} (hd : decode M.2.1 pc = .ok (.arraylength, 1)) (he : ws[q0]? = some (a, .inl (G.2.1 t0, x))) (ht : (xg_ty G)[t0]? = some (G.2.1 t0, ty)) (k : XX G M R F cells slots ws (pc + 1) lv (.int (nI x.1) :: st)) : XX G M R F cells slots ws pc lv (.ref a :: st) := by
  intro p e s m args below meth c H locs ls hf hP hD hS hl
  exact va_alen (D := G.1) hf.1 hf.2.1 hf.2.2.2.2.2.2.2.2.2.2 hP q0 t0 he ht rfl hd (k p e s m args below meth c H locs ls hf hP hD hS hl)
theorem XX.newI {n : Nat} (hd : decode M.2.1 pc = .ok (.newarray .int, 2)) (hw : Cond.arrayClass .int ∈ xw_g) (hn : n < 60000000) (hc : cells + 1 ≤ R.cells ∧ slots + n ≤ R.slots) (k : ∀ q : Nat, XX G M R F (cells + 1) (slots + n) (ws ++ [(q, .inl (G.2.1 1, n, .inl (fun _ => 0)))]) (pc + 2) lv (.ref q :: st)) : XX G M R F cells slots ws pc lv (.int (nI n) :: st) := by
  intro p e s m args below meth c H locs ls hf hP hD hS hl
  have hen := hf.2.2.2.2.2.2.2.2
  have hts : ∀ w ∈ xw_g, w.before args s = true := fun w h => hen.1 w h args
  refine va_newa (D := G.1) (atype := .int) (ty := .int) (a0 := (n, .inl (fun _ => 0))) hf.1 hf.2.1 (hts _ hw) rfl hen.2.2 hP hD hS (fun q h => Nat.le_trans hf.2.2.2.2.2.2.2.1 h) (fun _ => rfl) (nI_pos (by omega)) (nI_clamp (by omega)) (by show n * 4 ≤ _; omega) hc.1 hc.2 hd (fun q cA H1 hK1 hP1 hD1 hS1 => ?_)
  have e1 : s.vm.findClass ("[" ++ FieldType.toString .int) = some cA := (hK1.2 4 _ rfl).2
  have e2 : s.vm.findClass ("[" ++ FieldType.toString .int) = some (G.2.1 1) := (hen.2.2.2 1 _ rfl).2
  have e3 : cA = G.2.1 1 := Option.some.inj (e1.symm.trans e2)
  subst e3
  exact k q p e s m args below meth c H1 locs ls hf hP1 hD1 hS1 hl
theorem XX.newB {n : Nat} (hd : decode M.2.1 pc = .ok (.newarray .byte, 2)) (hw : Cond.arrayClass .byte ∈ xw_g) (hn : n < 60000000) (hc : cells + 1 ≤ R.cells ∧ slots + n ≤ R.slots) (k : ∀ q : Nat, XX G M R F (cells + 1) (slots + n) (ws ++ [(q, .inl (G.2.1 0, n, .inl (fun _ => 0)))]) (pc + 2) lv (.ref q :: st)) : XX G M R F cells slots ws pc lv (.int (nI n) :: st) := by
  intro p e s m args below meth c H locs ls hf hP hD hS hl
  have hen := hf.2.2.2.2.2.2.2.2
  have hts : ∀ w ∈ xw_g, w.before args s = true := fun w h => hen.1 w h args
  refine va_newa (D := G.1) (atype := .byte) (ty := .byte) (a0 := (n, .inl (fun _ => 0))) hf.1 hf.2.1 (hts _ hw) rfl hen.2.2 hP hD hS (fun q h => Nat.le_trans hf.2.2.2.2.2.2.2.1 h) (fun _ => rfl) (nI_pos (by omega)) (nI_clamp (by omega)) (by show n * 1 ≤ _; omega) hc.1 hc.2 hd (fun q cA H1 hK1 hP1 hD1 hS1 => ?_)
  have e1 : s.vm.findClass ("[" ++ FieldType.toString .byte) = some cA := (hK1.2 4 _ rfl).2
  have e2 : s.vm.findClass ("[" ++ FieldType.toString .byte) = some (G.2.1 0) := (hen.2.2.2 0 _ rfl).2
  have e3 : cA = G.2.1 0 := Option.some.inj (e1.symm.trans e2)
  subst e3
  exact k q p e s m args below meth c H1 locs ls hf hP1 hD1 hS1 hl
theorem XX.newL {n : Nat} (hd : decode M.2.1 pc = .ok (.newarray .long, 2)) (hw : Cond.arrayClass .long ∈ xw_g) (hn : n < 60000000) (hc : cells + 1 ≤ R.cells ∧ slots + n ≤ R.slots) (k : ∀ q : Nat, XX G M R F (cells + 1) (slots + n) (ws ++ [(q, .inl (G.2.1 2, n, .inr (.inl (fun _ => 0))))]) (pc + 2) lv (.ref q :: st)) : XX G M R F cells slots ws pc lv (.int (nI n) :: st) := by
  intro p e s m args below meth c H locs ls hf hP hD hS hl
  have hen := hf.2.2.2.2.2.2.2.2
  have hts : ∀ w ∈ xw_g, w.before args s = true := fun w h => hen.1 w h args
  refine va_newa (D := G.1) (atype := .long) (ty := .long) (a0 := (n, .inr (.inl (fun _ => 0)))) hf.1 hf.2.1 (hts _ hw) rfl hen.2.2 hP hD hS (fun q h => Nat.le_trans hf.2.2.2.2.2.2.2.1 h) (fun _ => rfl) (nI_pos (by omega)) (nI_clamp (by omega)) (by show n * 8 ≤ _; omega) hc.1 hc.2 hd (fun q cA H1 hK1 hP1 hD1 hS1 => ?_)
  have e1 : s.vm.findClass ("[" ++ FieldType.toString .long) = some cA := (hK1.2 4 _ rfl).2
  have e2 : s.vm.findClass ("[" ++ FieldType.toString .long) = some (G.2.1 2) := (hen.2.2.2 2 _ rfl).2
  have e3 : cA = G.2.1 2 := Option.some.inj (e1.symm.trans e2)
  subst e3
  exact k q p e s m args below meth c H1 locs ls hf hP1 hD1 hS1 hl
theorem XX.newK {n idx : Nat} (hd : decode M.2.1 pc = .ok (.anewarray idx, 3)) (hw : Cond.classLink M.1.cls idx "LineSorter$Key" ∈ xw_g) (hov : Cond.arrayOver (.object "LineSorter$Key") ∈ xw_g) (hn : n < 60000000) (hc : cells + 1 ≤ R.cells ∧ slots + n ≤ R.slots) (k : ∀ q : Nat, XX G M R F (cells + 1) (slots + n) (ws ++ [(q, .inl (G.2.1 3, n, .inr (.inr (.inr (.inr (fun _ => none))))))]) (pc + 3) lv (.ref q :: st)) : XX G M R F cells slots ws pc lv (.int (nI n) :: st) := by
  intro p e s m args below meth c H locs ls hf hP hD hS hl
  have hen := hf.2.2.2.2.2.2.2.2
  have hts : ∀ w ∈ xw_g, w.before args s = true := fun w h => hen.1 w h args
  refine va_newq (D := G.1) (N' := n) hf.1 hf.2.1 hf.2.2.2.2.2.1 (hts _ hw) (hen.1 _ hov #[]) hen.2.2 hP hD hS (fun q h => Nat.le_trans hf.2.2.2.2.2.2.2.1 h) (nI_pos (by omega)) (nI_clamp (by omega)) (by omega) hc.1 hc.2 hd (fun q cA H1 hK1 hP1 hD1 hS1 => ?_)
  obtain ⟨_, _, _, _, _, e1⟩ := (hK1.2 4 _ rfl).2
  obtain ⟨_, _, _, _, _, e2⟩ := (hen.2.2.2 3 _ rfl).2
  have e3 : cA = G.2.1 3 := Option.some.inj (e1.symm.trans e2)
  subst e3
  exact k q p e s m args below meth c H1 locs ls hf hP1 hD1 hS1 hl
theorem XX.callS {Mk : XM} {n idx : Nat} {As rest : List Value} {rmk : Room} {P : Option Value → va_W → Prop} (hM : MM G Mk rmk As ws P) (hk : xx_mt Mk n) (hst : Cond.static Mk.1 ∈ xw_g) (hlk : Cond.methodLink M.1.cls idx Mk.1 ∈ xw_g) (hn : As.length = n) (hd : decode M.2.1 pc = .ok (.invokestatic idx, 3)) (hR : rmk.frames + 1 ≤ R.frames ∧ 8 + (Mk.2.2.1 + 11) + rmk.locals ≤ R.locals) (hC : cells + rmk.cells ≤ R.cells ∧ slots + rmk.slots ≤ R.slots) (hw : (rest.map fun v => v.category).sum ≤ 8) (hst0 : st = As.reverse ++ rest)
    (k : ∀ (r : Option Value) (ws1 : va_W), P r ws1 → XX G M R F (cells + rmk.cells) (slots + rmk.slots) ws1 (pc + 3) lv (r.toList ++ rest)) : XX G M R F cells slots ws pc lv st := by
  intro p e s m args below meth c H locs ls hf hP hD hS hl
  subst hst0
  have hen := hf.2.2.2.2.2.2.2.2
  have hts : ∀ w ∈ xw_g, w.before args s = true := fun w h => hen.1 w h args
  exact xx_after (va_runS (Ts := xw_g) (own := M.1.cls) ⟨hf.1, hf.2.1, hf.2.2.1, hf.2.2.2.2.2.1, hts⟩ hM ⟨callB_of n hts (xx_good hk.1) rfl rfl rfl (hts _ hk.2.1) (hts _ hlk) hk.2.2 hR, hts _ hst⟩ ⟨xx_blind G As ws, fun U hU hW => ⟨rfl, by rw [hU]; exact Nat.le_trans hf.2.2.2.2.2.2.2.1 hS.1, hen.moved hW (by rw [hU]; exact hS.2.1), by rw [hU]; exact hP, hD⟩⟩ rfl hn hl.1 rfl (lv_room hw) hd hC) hS (fun r ws1 H1 locs1 hp hP1 hD1 hS1 => k r ws1 hp p e s m args below meth c H1 locs1 ls hf hP1 hD1 hS1 hl)
theorem XX.callV {Mk : XM} {n idx ci q0 b : Nat} {As rest fs : List Value} {q : vw_C} {rmk : Room} {P : Option Value → va_W → Prop} (hM : MM G Mk rmk (.ref b :: As) ws P) (hk : xx_mt Mk n) (hi : Cond.instanceMethod Mk.1 ∈ xw_g ∧ Cond.selects Mk.1.cls Mk.1 Mk.1 ∈ xw_g) (hlk : Cond.methodLink M.1.cls idx Mk.1 ∈ xw_g ∨ ∃ host : String, Cond.methodLinkNest M.1.cls idx Mk.1 host ∈ xw_n) (hn : As.length = n) (hd : decode M.2.1 pc = .ok (.invokevirtual idx, 3)) (he : ws[q0]? = some (b, .inr (ci, fs))) (hc : xc_cl[ci]? = some q) (hq : q.1 = Mk.1.cls) (hR : rmk.frames + 1 ≤ R.frames ∧ 8 + (Mk.2.2.1 + 11) + rmk.locals ≤ R.locals) (hC : cells + rmk.cells ≤ R.cells ∧ slots + rmk.slots ≤ R.slots) (hw : (rest.map fun v => v.category).sum ≤ 8) (hst0 : st = As.reverse ++ .ref b :: rest)
    (k : ∀ (r : Option Value) (ws1 : va_W), P r ws1 → XX G M R F (cells + rmk.cells) (slots + rmk.slots) ws1 (pc + 3) lv (r.toList ++ rest)) : XX G M R F cells slots ws pc lv st := by
  intro p e s m args below meth c H locs ls hf hP hD hS hl
  subst hst0
  have hen := hf.2.2.2.2.2.2.2.2
  have hts : ∀ w ∈ xw_g, w.before args s = true := fun w h => hen.1 w h args
  have hrc := va_recv hen.2.2 hP hc he
  rw [hq] at hrc
  have hp : PreV s H Mk.1.cls b (xx_pc G (.ref b :: As) ws) As := ⟨xx_blind G _ ws, hrc, fun U hU hW => ⟨rfl, by rw [hU]; exact Nat.le_trans hf.2.2.2.2.2.2.2.1 hS.1, hen.moved hW (by rw [hU]; exact hS.2.1), by rw [hU]; exact hP, hD⟩⟩
  rcases hlk with hlk | ⟨host, hlk⟩
  · exact xx_after (va_runV (Ts := xw_g) (own := M.1.cls) ⟨hf.1, hf.2.1, hf.2.2.1, hf.2.2.2.2.2.1, hts⟩ hM ⟨callB_of n hts (xx_good hk.1) rfl rfl rfl (hts _ hk.2.1) (hts _ hlk) hk.2.2 hR, hts _ hi.1, hts _ hi.2⟩ hp rfl hn hl.1 rfl (lv_room hw) hd hC) hS (fun r ws1 H1 locs1 hp hP1 hD1 hS1 => k r ws1 hp p e s m args below meth c H1 locs1 ls hf hP1 hD1 hS1 hl)
  · exact xx_after (va_runVN (Ts := xw_g) (own := M.1.cls) ⟨hf.1, hf.2.1, hf.2.2.1, hf.2.2.2.2.2.1, hts⟩ hM ⟨va_cnB n hts (xx_good hk.1) rfl rfl rfl (hen.2.1.1 _ hlk) (hts _ hk.2.1) hk.2.2 hR, hts _ hi.1, hts _ hi.2⟩ hp rfl hn hl.1 rfl (lv_room hw) hd hC) hS (fun r ws1 H1 locs1 hp hP1 hD1 hS1 => k r ws1 hp p e s m args below meth c H1 locs1 ls hf hP1 hD1 hS1 hl)
theorem XX.callI {yk : MethodName} {bk : ByteArray} {lk n idx b : Nat} {As rest : List Value} {rmk : Room} {P : Option Value → va_W → Prop} (hM : MM G (yk, bk, lk, none) rmk (.ref b :: As) ws P) (hk : xx_mt (yk, bk, lk, none) n) (hi : Cond.instanceMethod yk ∈ xw_g) (hnm : yk.name = "<init>") (hlk : Cond.methodLink M.1.cls idx yk ∈ xw_g ∨ ∃ host : String, Cond.methodLinkNest M.1.cls idx yk host ∈ xw_n) (hn : As.length = n) (hd : decode M.2.1 pc = .ok (.invokespecial idx, 3)) (hR : rmk.frames + 1 ≤ R.frames ∧ 8 + (lk + 11) + rmk.locals ≤ R.locals) (hC : cells + rmk.cells ≤ R.cells ∧ slots + rmk.slots ≤ R.slots) (hw : (rest.map fun v => v.category).sum ≤ 8) (hst0 : st = As.reverse ++ .ref b :: rest)
    (k : ∀ (r : Option Value) (ws1 : va_W), P r ws1 → XX G M R F (cells + rmk.cells) (slots + rmk.slots) ws1 (pc + 3) lv (r.toList ++ rest)) : XX G M R F cells slots ws pc lv st := by
  intro p e s m args below meth c H locs ls hf hP hD hS hl
  subst hst0
  have hen := hf.2.2.2.2.2.2.2.2
  have hts : ∀ w ∈ xw_g, w.before args s = true := fun w h => hen.1 w h args
  have hp : PreS s H (xx_pc G (.ref b :: As) ws) (.ref b :: As) := ⟨xx_blind G _ ws, fun U hU hW => ⟨rfl, by rw [hU]; exact Nat.le_trans hf.2.2.2.2.2.2.2.1 hS.1, hen.moved hW (by rw [hU]; exact hS.2.1), by rw [hU]; exact hP, hD⟩⟩
  rcases hlk with hlk | ⟨host, hlk⟩
  · exact xx_after (va_runI (Ts := xw_g) (own := M.1.cls) ⟨hf.1, hf.2.1, hf.2.2.1, hf.2.2.2.2.2.1, hts⟩ hM ⟨callB_of n hts (xx_good hk.1) rfl rfl rfl (hts _ hk.2.1) (hts _ hlk) hk.2.2 hR, hnm, hts _ hi⟩ hp rfl hn hl.1 rfl (lv_room hw) hd hC) hS (fun r ws1 H1 locs1 hp hP1 hD1 hS1 => k r ws1 hp p e s m args below meth c H1 locs1 ls hf hP1 hD1 hS1 hl)
  · exact xx_after (va_runIN (Ts := xw_g) (own := M.1.cls) ⟨hf.1, hf.2.1, hf.2.2.1, hf.2.2.2.2.2.1, hts⟩ hM ⟨va_cnB n hts (xx_good hk.1) rfl rfl rfl (hen.2.1.1 _ hlk) (hts _ hk.2.1) hk.2.2 hR, hnm, hts _ hi⟩ hp rfl hn hl.1 rfl (lv_room hw) hd hC) hS (fun r ws1 H1 locs1 hp hP1 hD1 hS1 => k r ws1 hp p e s m args below meth c H1 locs1 ls hf hP1 hD1 hS1 hl)
theorem XX.objInit {idx a : Nat} (hd : decode M.2.1 pc = .ok (.invokespecial idx, 3)) (h1 : Cond.methodLink M.1.cls idx objectInit ∈ xw_g) (h2 : Cond.instanceMethod objectInit ∈ xw_g) (h3 : Cond.code objectInit ⟨#[0xb1]⟩ 1 none ∈ xw_g) (hR : 1 ≤ R.frames) (hR2 : (st.map fun v => v.category).sum + 12 ≤ R.locals) (k : XX G M R F cells slots ws (pc + 3) lv st) : XX G M R F cells slots ws pc lv (.ref a :: st) := by
  intro p e s m args below meth c H locs ls hf hP hD hS hl
  have hen := hf.2.2.2.2.2.2.2.2
  refine W.objInit hf.1 hf.2.1 hf.2.2.2.2.2.1 (hen.1 _ h1 args) (hen.1 _ h2 args) (hen.1 _ h3 args) rfl (by rw [hf.2.2.1]; exact hl.1) rfl hd hR ?_ (k p e s m args below meth c H locs ls hf hP hD hS hl)
  show 2 * 0 + (st.map fun v => v.category).sum + 12 ≤ R.locals
  omega
theorem XX.mmin {idx : Nat} {x y : Int32} (hd : decode M.2.1 pc = .ok (.invokestatic idx, 3)) (h1 : Cond.methodLink M.1.cls idx Lib.Math.min.name ∈ xw_g) (h2 : Cond.static Lib.Math.min.name ∈ xw_g) (h3 : Cond.initialized "java/lang/Math" ∈ xw_g) (h4 : Cond.code Lib.Math.min.name Lib.Math.min.code 2 (some .int) ∈ xw_g) (hR : 1 ≤ R.frames) (hR2 : (st.map fun v => v.category).sum + 13 ≤ R.locals) (hC : cells ≤ R.cells ∧ slots ≤ R.slots) (k : XX G M R F cells slots ws (pc + 3) lv (.int (if y < x then y else x) :: st)) : XX G M R F cells slots ws pc lv (.int y :: .int x :: st) := by
  intro p e s m args below meth c H locs ls hf hP hD hS hl
  have hen := hf.2.2.2.2.2.2.2.2
  exact va_mmin hf.1 hf.2.1 (by rw [hf.2.2.1]; exact hl.1.symm) hf.2.2.2.2.2.1 (hen.1 _ h1 args) (hen.1 _ h2 args) (hen.1 _ h3 args) (hen.1 _ h4 args) hR hR2 hC.1 hC.2 hd (k p e s m args below meth c H locs ls hf hP hD hS hl)
theorem XX.mmax {idx : Nat} {x y : Int32} (hd : decode M.2.1 pc = .ok (.invokestatic idx, 3)) (h1 : Cond.methodLink M.1.cls idx Lib.Math.max.name ∈ xw_g) (h2 : Cond.static Lib.Math.max.name ∈ xw_g) (h3 : Cond.initialized "java/lang/Math" ∈ xw_g) (h4 : Cond.code Lib.Math.max.name Lib.Math.max.code 2 (some .int) ∈ xw_g) (hR : 1 ≤ R.frames) (hR2 : (st.map fun v => v.category).sum + 13 ≤ R.locals) (hC : cells ≤ R.cells ∧ slots ≤ R.slots) (k : XX G M R F cells slots ws (pc + 3) lv (.int (if x < y then y else x) :: st)) : XX G M R F cells slots ws pc lv (.int y :: .int x :: st) := by
  intro p e s m args below meth c H locs ls hf hP hD hS hl
  have hen := hf.2.2.2.2.2.2.2.2
  exact va_mmax hf.1 hf.2.1 (by rw [hf.2.2.1]; exact hl.1.symm) hf.2.2.2.2.2.1 (hen.1 _ h1 args) (hen.1 _ h2 args) (hen.1 _ h3 args) (hen.1 _ h4 args) hR hR2 hC.1 hC.2 hd (k p e s m args below meth c H locs ls hf hP hD hS hl)
theorem XX.iret {rm : Room} {P : Option Value → va_W → Prop} {v : Int32} (hd : decode M.2.1 pc = .ok (.ireturn, 1)) (hr : M.2.2.2 = some .int) (hc : cells ≤ rm.cells ∧ slots ≤ rm.slots) (hp : P (some (.int v)) ws) : XX G M R (xx_F G P rm) cells slots ws pc lv [.int v] := by
  intro p e s m args below meth c H locs ls hf hP hD hS hl
  refine W.widen hc.1 hc.2 ?_
  exact W.iret hf.1 hf.2.1 (hf.2.2.2.1.trans hr) (fun t ht hW => ⟨hS.F ht, _, ws, rfl, hp, by rw [ht]; exact hP, hD⟩) hS.2.2 hd hf.2.2.2.2.1
theorem XX.zret {rm : Room} {P : Option Value → va_W → Prop} {v : Int32} (hd : decode M.2.1 pc = .ok (.ireturn, 1)) (hr : M.2.2.2 = some .boolean) (hn : narrow .boolean (.int v) = .int v) (hc : cells ≤ rm.cells ∧ slots ≤ rm.slots) (hp : P (some (.int v)) ws) : XX G M R (xx_F G P rm) cells slots ws pc lv [.int v] := by
  intro p e s m args below meth c H locs ls hf hP hD hS hl
  refine W.widen hc.1 hc.2 ?_
  exact W.zret hf.1 hf.2.1 (hf.2.2.2.1.trans hr) hn (fun t ht hW => ⟨hS.F ht, _, ws, rfl, hp, by rw [ht]; exact hP, hD⟩) hS.2.2 hd hf.2.2.2.2.1
theorem XX.vret {rm : Room} {P : Option Value → va_W → Prop} (hd : decode M.2.1 pc = .ok (.return_, 1)) (hr : M.2.2.2 = none) (hc : cells ≤ rm.cells ∧ slots ≤ rm.slots) (hp : P none ws) : XX G M R (xx_F G P rm) cells slots ws pc lv [] := by
  intro p e s m args below meth c H locs ls hf hP hD hS hl
  refine W.widen hc.1 hc.2 ?_
  exact W.vret hf.1 hf.2.1 (hf.2.2.2.1.trans hr) (fun t ht hW => ⟨hS.F ht, _, ws, rfl, hp, by rw [ht]; exact hP, hD⟩) hS.2.2 hd hf.2.2.2.2.1
theorem XX.aret {rm : Room} {P : Option Value → va_W → Prop} {a : Nat} {t : FieldType} (hd : decode M.2.1 pc = .ok (.areturn, 1)) (hr : M.2.2.2 = some t) (ht : (∃ n, t = .object n) ∨ ∃ u, t = .array u) (hc : cells ≤ rm.cells ∧ slots ≤ rm.slots) (hp : P (some (.ref a)) ws) : XX G M R (xx_F G P rm) cells slots ws pc lv [.ref a] := by
  intro p e s m args below meth c H locs ls hf hP hD hS hl
  refine W.widen hc.1 hc.2 ?_
  exact W.aret hf.1 hf.2.1 (hf.2.2.2.1.trans hr) ht (Or.inr ⟨a, rfl⟩) (fun t ht hW => ⟨hS.F ht, _, ws, rfl, hp, by rw [ht]; exact hP, hD⟩) hS.2.2 hd hf.2.2.2.2.1
end
end
section
/-- the world of the class: q addresses, x int fields, n the two lengths that grow, f arrays, kf the row of keys, kl what else is there -/
def wC (G : XG) (q : Nat → Nat) (x : Nat → Int32) (n : Nat → Nat) (f : Nat → Nat → Int32) (kf : Nat → Option Nat) (kl : va_W) : va_W :=
  (q 0, .inr (0, [.ref (q 1), .ref (q 4), .ref (q 5), .ref (q 10), .ref (q 13), .ref (q 15), .ref (q 18), .int (x 0), .int (x 1), .int (x 2)])) ::
  (q 1, .inr (1, [.ref (q 2), .int (x 3), .ref (q 3), .int (x 4)])) ::
  (q 2, .inl (G.2.1 0, n 0, .inl (f 0))) ::
  (q 3, .inl (G.2.1 1, n 1, .inl (f 1))) ::
  (q 4, .inr (2, [.ref (q 1), .int (x 5)])) ::
  (q 5, .inr (3, [.ref (q 1), .ref (q 4), .ref (q 6), .ref (q 7), .ref (q 8), .ref (q 9), .int (x 6), .int (x 7), .int (x 8), .int (x 9)])) ::
  (q 6, .inl (G.2.1 3, 6, .inr (.inr (.inr (.inr kf))))) ::
  (q 7, .inr (4, [.int (nI 1), .int (nI 1), .int (nI 0), .int (nI 0), .int (nI 0)])) ::
  (q 8, .inr (5, [.int (x 10), .int (x 11), .int (x 12), .int (x 13), .int (x 14)])) ::
  (q 9, .inr (5, [.int (x 15), .int (x 16), .int (x 17), .int (x 18), .int (x 19)])) ::
  (q 10, .inr (6, [.ref (q 5), .ref (q 11), .ref (q 12)])) ::
  (q 11, .inl (G.2.1 1, 1000, .inl (f 2))) ::
  (q 12, .inl (G.2.1 1, 1000, .inl (f 3))) ::
  (q 13, .inr (7, [.ref (q 14), .int (x 20)])) ::
  (q 14, .inl (G.2.1 1, 1000, .inl (f 4))) ::
  (q 15, .inr (8, [.ref (q 10), .ref (q 13), .ref (q 16), .ref (q 17), .int (x 21), .int (x 22), .int (x 23), .int (x 24)])) ::
  (q 16, .inl (G.2.1 1, 1000, .inl (f 5))) ::
  (q 17, .inl (G.2.1 1, 2000, .inl (f 6))) ::
  (q 18, .inl (G.2.1 1, 1000, .inl (f 7))) :: kl
/-- the world of the reference -/
def wM (G : XG) (q : Nat → Nat) (x : Nat → Int32) (f : Nat → Nat → Int32) (kl : va_W) : va_W :=
  (q 0, .inr (9, [.ref (q 1), .int (x 0), .ref (q 2), .int (x 1), .int (x 2), .int (x 3), .int (x 4), .int (x 5), .int (x 6), .ref (q 3), .int (x 7), .int (x 8), .int (x 9), .ref (q 4), .ref (q 5), .int (x 10), .ref (q 6), .int (x 11), .ref (q 7), .ref (q 8), .ref (q 9), .int (x 12), .ref (q 10), .int (x 13), .int (x 14), .int (x 15), .int (x 16), .ref (q 11), .int (x 17), .int (x 18), .int (x 19), .ref (q 12)])) ::
  (q 1, .inl (G.2.1 0, 20000, .inl (f 0))) ::
  (q 2, .inl (G.2.1 1, 20001, .inl (f 1))) ::
  (q 3, .inl (G.2.1 1, 30, .inl (f 2))) ::
  (q 4, .inl (G.2.1 1, 6000, .inl (f 3))) ::
  (q 5, .inl (G.2.1 1, 6000, .inl (f 4))) ::
  (q 6, .inl (G.2.1 1, 1000, .inl (f 5))) ::
  (q 7, .inl (G.2.1 1, 1000, .inl (f 6))) ::
  (q 8, .inl (G.2.1 1, 1000, .inl (f 7))) ::
  (q 9, .inl (G.2.1 1, 1000, .inl (f 8))) ::
  (q 10, .inl (G.2.1 1, 1000, .inl (f 9))) ::
  (q 11, .inl (G.2.1 1, 500, .inl (f 10))) ::
  (q 12, .inl (G.2.1 1, 1000, .inl (f 11))) :: kl
def fup (f : Nat → Nat → Int32) (k : Nat) (g : Nat → Int32) : Nat → Nat → Int32 := fun i => if i = k then g else f i
def xr (d c s : Nat) : Room := { frames := d, cells := c, slots := s, locals := 40 * d }
def RX (r : Option Value) (ws : va_W) : Option Value → va_W → Prop := fun a b => a = r ∧ b = ws
end
section
/-! XR: as XX, while nothing has been written or made: for methods that only read, and for the way to a throw -/
def XR (G : XG) (M : XM) (R : Room) (F : XF) (ws : va_W) (pc : Nat) (lv : List (Nat × Value)) (st : List Value) : Prop :=
  ∀ (p : Program) (e : Env) (s : State) (m : MethodId) (args : Array Value) (below : List Frame) (meth : Method) (c : Code) (ls : Array Slot),
    xx_fx G M p s m meth c → va_P G.1 xc_cl ws s.heap → va_D (xg_A G) ws → lv_has ls M.2.2.1 lv →
    W p G.2.2.2 e R s m args below meth c s.heap [] 0 0 (F below args s) (F0 m pc ls st)
def xr_qc (r : Option Value) : Array Value → State → Outcome → State → Prop := fun _ st o t => o = .returned r ∧ t.heap = st.heap
/-- the contract of a method that only reads: it returns r, the heap as it was -/
def MR (G : XG) (M : XM) (rm : Room) (av : List Value) (ws : va_W) (r : Option Value) : Prop :=
  Met G.2.2.2 M.1 (xx_ws M) rm (xx_pc G av ws) (xr_qc r) 0 0 (fun _ => False)
def xr_F (r : Option Value) : XF := fun below args s => MQ below (xr_qc r) args s 0 0 (fun _ => False)
theorem MR.of {G : XG} {M : XM} {rm : Room} {av : List Value} {ws : va_W} {r : Option Value} (hy : plainName M.1.cls = true) (hlen : (lg_sl av).length ≤ M.2.2.1)
    (h : XR G M rm (xr_F r) ws 0 (lv_args 0 av) []) : MR G M rm av ws r := by
  refine Met.ofW (cc := M.2.1) (maxL := M.2.2.1) (ret := M.2.2.2) hy rfl ?_
  intro p e s m args below meth c s₁ B hml hv
  obtain ⟨rfl, hbase, hen, hP, hD⟩ := hv
  have hl := lv_entry av (n := M.2.2.1) hlen
  rw [lg_entry_eq]
  exact h p e s m _ below meth c _ ⟨B.exec, B.bytes, hml, B.returns, B.notSynchronized, findClass_of_methodNamed B.named, Or.inl ⟨(name_of_methodNamed B.named B.method).1, B.named⟩, hbase, hen⟩ hP hD hl
theorem xr_met {l : Launch} {y : MethodName} {ws : List Cond} {rm : Room} {Pc : Array Value → State → Prop} {Qc Q2 : Array Value → State → Outcome → State → Prop} {mc ms m2 n2 : Nat} {f1 f2 : Addr → Prop} (h : Met l y ws rm Pc Qc mc ms f1) (hq : ∀ a st o t, Pc a st → Qc a st o t → Q2 a st o t) (hc : mc ≤ m2) (hs : ms ≤ n2) (hf : ∀ q, f1 q → f2 q) : Met l y ws rm Pc Q2 m2 n2 f2 := by
  intro p e h1 h2 h3 s m args below h4 h5 h6 h7
  obtain ⟨n, o, a1, a2, a3, b1, L, ⟨b2, b3, b4⟩, b5⟩ := h p e h1 h2 h3 s m args below h4 h5 h6 h7
  exact ⟨n, o, a1, a2, a3, hq _ _ _ _ h6 b1, L, ⟨b2, b3, b4.weaken (fun _ h _ => h) hc hs⟩, fun q h => hf _ (b5 q h)⟩
theorem MR.mm {G : XG} {M : XM} {rm : Room} {av : List Value} {ws : va_W} {r : Option Value} (h : MR G M rm av ws r) : MM G M rm av ws (fun a b => a = r ∧ b = ws) := by
  refine xr_met h (fun a st o t hp hq => ?_) (Nat.zero_le _) (Nat.zero_le _) (fun q h => h.elim)
  obtain ⟨h1, h2⟩ := hq
  obtain ⟨_, _, _, h3, h4⟩ := hp
  exact ⟨⟨by rw [h2]; exact Nat.le_refl _, fun q _ _ => by rw [h2]⟩, r, ws, h1, ⟨rfl, rfl⟩, by rw [h2]; exact h3, h4⟩
section
variable {p : Program} {l : Launch} {e : Env} {R : Room} {s : State} {m : MethodId} {args : Array Value} {below : List Frame} {meth : Method} {c : Code} {Q : State → Prop}
theorem xr_after {r : Option Value} {a : Array Value} {pc : Nat} {ls : Array Slot} {st0 rest : List Value} (hr : va_Run p l e R s m args below meth c s.heap [] 0 0 0 0 (F0 m pc ls st0) rest (xr_qc r a) (fun _ => False))
    (kk : W p l e R s m args below meth c s.heap [] 0 0 Q (F0 m (pc + 3) ls (r.toList ++ rest))) : W p l e R s m args below meth c s.heap [] 0 0 Q (F0 m pc ls st0) := by
  intro T hT X
  obtain ⟨v, st₀, t, T', L, h0, X', hL, e1, e2, ⟨hv, hh⟩, st⟩ := hr T hT X
  cases hv
  have hL0 : L = [] := by
    cases L with
    | nil => rfl
    | cons x xs => exact (hL x List.mem_cons_self).elim
  subst hL0
  obtain ⟨t2, a1, b1⟩ := kk T' (by rw [e1, hh, h0]) X'
  exact ⟨t2, st t2 a1, b1⟩
end
section
variable {G : XG} {M : XM} {R : Room} {F : XF} {cells slots : Nat} {ws : va_W} {pc : Nat} {lv : List (Nat × Value)} {st : List Value}
theorem XR.xx (k : XX G M R F 0 0 ws pc lv st) : XR G M R F ws pc lv st := by
  intro p e s m args below meth c ls hf hP hD hl
  exact k p e s m args below meth c s.heap [] ls hf hP hD va_S.rf hl
theorem XR.iconst {n : Int} {v : Int32} (hd : decode M.2.1 pc = .ok (.iconst n, 1)) (hv : Int32.ofInt n = v) (k : XR G M R F ws (pc + 1) lv (.int v :: st)) : XR G M R F ws pc lv (st) := by
  intro p e s m args below meth c ls hf hP hD hl
  exact lv_iconst hf.1 hf.2.1 hd hv (k p e s m args below meth c ls hf hP hD hl)
theorem XR.bipush {n : Int} {v : Int32} (hd : decode M.2.1 pc = .ok (.bipush n, 2)) (hv : (Int8.ofInt n).toInt32 = v) (k : XR G M R F ws (pc + 2) lv (.int v :: st)) : XR G M R F ws pc lv (st) := by
  intro p e s m args below meth c ls hf hP hD hl
  exact lv_bipush hf.1 hf.2.1 hd hv (k p e s m args below meth c ls hf hP hD hl)
theorem XR.sipush {n : Int} {v : Int32} (hd : decode M.2.1 pc = .ok (.sipush n, 3)) (hv : (Int16.ofInt n).toInt32 = v) (k : XR G M R F ws (pc + 3) lv (.int v :: st)) : XR G M R F ws pc lv (st) := by
  intro p e s m args below meth c ls hf hP hD hl
  exact lv_sipush hf.1 hf.2.1 hd hv (k p e s m args below meth c ls hf hP hD hl)
theorem XR.lconst {n : Fin 2} {v : Int64} (hd : decode M.2.1 pc = .ok (.lconst n, 1)) (hv : Int64.ofNat (n : Nat) = v) (k : XR G M R F ws (pc + 1) lv (.long v :: st)) : XR G M R F ws pc lv (st) := by
  intro p e s m args below meth c ls hf hP hD hl
  exact lv_lconst hf.1 hf.2.1 hd hv (k p e s m args below meth c ls hf hP hD hl)
theorem XR.iload_n {j : Fin 4} {i : Nat} {x : Int32} (hd : decode M.2.1 pc = .ok (.iload_n j, 1)) (hi : (j : Nat) = i) (z : Nat) (hz : lv[z]? = some (i, .int x)) (k : XR G M R F ws (pc + 1) lv (.int x :: st)) : XR G M R F ws pc lv (st) := by
  intro p e s m args below meth c ls hf hP hD hl
  exact lv_iload_n hf.1 hf.2.1 hd hi (lv_at hl z hz) (k p e s m args below meth c ls hf hP hD hl)
theorem XR.iload {i : Nat} {x : Int32} (hd : decode M.2.1 pc = .ok (.iload i, 2)) (z : Nat) (hz : lv[z]? = some (i, .int x)) (k : XR G M R F ws (pc + 2) lv (.int x :: st)) : XR G M R F ws pc lv (st) := by
  intro p e s m args below meth c ls hf hP hD hl
  exact lv_iload hf.1 hf.2.1 hd (lv_at hl z hz) (k p e s m args below meth c ls hf hP hD hl)
theorem XR.lload_n {j : Fin 4} {i : Nat} {x : Int64} (hd : decode M.2.1 pc = .ok (.lload_n j, 1)) (hi : (j : Nat) = i) (z : Nat) (hz : lv[z]? = some (i, .long x)) (k : XR G M R F ws (pc + 1) lv (.long x :: st)) : XR G M R F ws pc lv (st) := by
  intro p e s m args below meth c ls hf hP hD hl
  exact lv_lload_n hf.1 hf.2.1 hd hi (lv_at hl z hz) (k p e s m args below meth c ls hf hP hD hl)
theorem XR.lload {i : Nat} {x : Int64} (hd : decode M.2.1 pc = .ok (.lload i, 2)) (z : Nat) (hz : lv[z]? = some (i, .long x)) (k : XR G M R F ws (pc + 2) lv (.long x :: st)) : XR G M R F ws pc lv (st) := by
  intro p e s m args below meth c ls hf hP hD hl
  exact lv_lload hf.1 hf.2.1 hd (lv_at hl z hz) (k p e s m args below meth c ls hf hP hD hl)
theorem XR.aload_n {j : Fin 4} {i : Nat} {x : Nat} (hd : decode M.2.1 pc = .ok (.aload_n j, 1)) (hi : (j : Nat) = i) (z : Nat) (hz : lv[z]? = some (i, .ref x)) (k : XR G M R F ws (pc + 1) lv (.ref x :: st)) : XR G M R F ws pc lv (st) := by
  intro p e s m args below meth c ls hf hP hD hl
  exact lv_aload_n hf.1 hf.2.1 hd hi (lv_at hl z hz) (k p e s m args below meth c ls hf hP hD hl)
theorem XR.aload {i : Nat} {x : Nat} (hd : decode M.2.1 pc = .ok (.aload i, 2)) (z : Nat) (hz : lv[z]? = some (i, .ref x)) (k : XR G M R F ws (pc + 2) lv (.ref x :: st)) : XR G M R F ws pc lv (st) := by
  intro p e s m args below meth c ls hf hP hD hl
  exact lv_aload hf.1 hf.2.1 hd (lv_at hl z hz) (k p e s m args below meth c ls hf hP hD hl)
theorem XR.istore_n {j : Fin 4} {i : Nat} {x : Int32} {lv2 : List (Nat × Value)} (hd : decode M.2.1 pc = .ok (.istore_n j, 1)) (hi : (j : Nat) = i) (hn : i < M.2.2.1) (h2 : (i, Value.int x) :: lv.filter (fun q => !(q.1 == i) && !(q.1 + 1 == i && q.2.category == 2)) = lv2) (k : XR G M R F ws (pc + 1) lv2 st) : XR G M R F ws pc lv (.int x :: st) := by
  intro p e s m args below meth c ls hf hP hD hl
  exact lv_istore_n hf.1 hf.2.1 hd hi hl hn h2 (fun ls2 hl2 => k p e s m args below meth c ls2 hf hP hD hl2)
theorem XR.istore {i : Nat} {x : Int32} {lv2 : List (Nat × Value)} (hd : decode M.2.1 pc = .ok (.istore i, 2)) (hn : i < M.2.2.1) (h2 : (i, Value.int x) :: lv.filter (fun q => !(q.1 == i) && !(q.1 + 1 == i && q.2.category == 2)) = lv2) (k : XR G M R F ws (pc + 2) lv2 st) : XR G M R F ws pc lv (.int x :: st) := by
  intro p e s m args below meth c ls hf hP hD hl
  exact lv_istore hf.1 hf.2.1 hd hl hn h2 (fun ls2 hl2 => k p e s m args below meth c ls2 hf hP hD hl2)
theorem XR.lstore_n {j : Fin 4} {i : Nat} {x : Int64} {lv2 : List (Nat × Value)} (hd : decode M.2.1 pc = .ok (.lstore_n j, 1)) (hi : (j : Nat) = i) (hn : i + 1 < M.2.2.1) (h2 : (i, Value.long x) :: lv.filter (fun q => !(q.1 == i) && (!(q.1 == i + 1) && !(q.1 + 1 == i && q.2.category == 2))) = lv2) (k : XR G M R F ws (pc + 1) lv2 st) : XR G M R F ws pc lv (.long x :: st) := by
  intro p e s m args below meth c ls hf hP hD hl
  exact lv_lstore_n hf.1 hf.2.1 hd hi hl hn h2 (fun ls2 hl2 => k p e s m args below meth c ls2 hf hP hD hl2)
theorem XR.lstore {i : Nat} {x : Int64} {lv2 : List (Nat × Value)} (hd : decode M.2.1 pc = .ok (.lstore i, 2)) (hn : i + 1 < M.2.2.1) (h2 : (i, Value.long x) :: lv.filter (fun q => !(q.1 == i) && (!(q.1 == i + 1) && !(q.1 + 1 == i && q.2.category == 2))) = lv2) (k : XR G M R F ws (pc + 2) lv2 st) : XR G M R F ws pc lv (.long x :: st) := by
  intro p e s m args below meth c ls hf hP hD hl
  exact lv_lstore hf.1 hf.2.1 hd hl hn h2 (fun ls2 hl2 => k p e s m args below meth c ls2 hf hP hD hl2)
theorem XR.astore_n {j : Fin 4} {i : Nat} {x : Nat} {lv2 : List (Nat × Value)} (hd : decode M.2.1 pc = .ok (.astore_n j, 1)) (hi : (j : Nat) = i) (hn : i < M.2.2.1) (h2 : (i, Value.ref x) :: lv.filter (fun q => !(q.1 == i) && !(q.1 + 1 == i && q.2.category == 2)) = lv2) (k : XR G M R F ws (pc + 1) lv2 st) : XR G M R F ws pc lv (.ref x :: st) := by
  intro p e s m args below meth c ls hf hP hD hl
  exact lv_astore_n hf.1 hf.2.1 hd hi hl hn h2 (fun ls2 hl2 => k p e s m args below meth c ls2 hf hP hD hl2)
theorem XR.astore {i : Nat} {x : Nat} {lv2 : List (Nat × Value)} (hd : decode M.2.1 pc = .ok (.astore i, 2)) (hn : i < M.2.2.1) (h2 : (i, Value.ref x) :: lv.filter (fun q => !(q.1 == i) && !(q.1 + 1 == i && q.2.category == 2)) = lv2) (k : XR G M R F ws (pc + 2) lv2 st) : XR G M R F ws pc lv (.ref x :: st) := by
  intro p e s m args below meth c ls hf hP hD hl
  exact lv_astore hf.1 hf.2.1 hd hl hn h2 (fun ls2 hl2 => k p e s m args below meth c ls2 hf hP hD hl2)
theorem XR.iinc {i z : Nat} {n : Int} {x v : Int32} {lv2 : List (Nat × Value)} (hd : decode M.2.1 pc = .ok (.iinc i n, 3)) (hz : lv[z]? = some (i, .int x)) (hv : x + Int32.ofInt n = v) (hn : i < M.2.2.1) (h2 : (i, Value.int v) :: lv.filter (fun q => !(q.1 == i) && !(q.1 + 1 == i && q.2.category == 2)) = lv2) (k : XR G M R F ws (pc + 3) lv2 st) : XR G M R F ws pc lv st := by
  intro p e s m args below meth c ls hf hP hD hl
  exact lv_iinc hf.1 hf.2.1 hd hl hz hv hn h2 (fun ls2 hl2 => k p e s m args below meth c ls2 hf hP hD hl2)
theorem XR.iadd {x y : Int32} (hd : decode M.2.1 pc = .ok (.iadd, 1))  (k : XR G M R F ws (pc + 1) lv (.int (x + y) :: st)) : XR G M R F ws pc lv (.int y :: .int x :: st) := by
  intro p e s m args below meth c ls hf hP hD hl
  exact lv_iadd hf.1 hf.2.1 hd  (k p e s m args below meth c ls hf hP hD hl)
theorem XR.isub {x y : Int32} (hd : decode M.2.1 pc = .ok (.isub, 1))  (k : XR G M R F ws (pc + 1) lv (.int (x - y) :: st)) : XR G M R F ws pc lv (.int y :: .int x :: st) := by
  intro p e s m args below meth c ls hf hP hD hl
  exact lv_isub hf.1 hf.2.1 hd  (k p e s m args below meth c ls hf hP hD hl)
theorem XR.imul {x y : Int32} (hd : decode M.2.1 pc = .ok (.imul, 1))  (k : XR G M R F ws (pc + 1) lv (.int (x * y) :: st)) : XR G M R F ws pc lv (.int y :: .int x :: st) := by
  intro p e s m args below meth c ls hf hP hD hl
  exact lv_imul hf.1 hf.2.1 hd  (k p e s m args below meth c ls hf hP hD hl)
theorem XR.iand {x y : Int32} (hd : decode M.2.1 pc = .ok (.iand, 1))  (k : XR G M R F ws (pc + 1) lv (.int (x &&& y) :: st)) : XR G M R F ws pc lv (.int y :: .int x :: st) := by
  intro p e s m args below meth c ls hf hP hD hl
  exact lv_iand hf.1 hf.2.1 hd  (k p e s m args below meth c ls hf hP hD hl)
theorem XR.ishl {x y : Int32} (hd : decode M.2.1 pc = .ok (.ishl, 1))  (k : XR G M R F ws (pc + 1) lv (.int (x <<< (y &&& 31)) :: st)) : XR G M R F ws pc lv (.int y :: .int x :: st) := by
  intro p e s m args below meth c ls hf hP hD hl
  exact lv_ishl hf.1 hf.2.1 hd  (k p e s m args below meth c ls hf hP hD hl)
theorem XR.ishr {x y : Int32} (hd : decode M.2.1 pc = .ok (.ishr, 1))  (k : XR G M R F ws (pc + 1) lv (.int (x >>> (y &&& 31)) :: st)) : XR G M R F ws pc lv (.int y :: .int x :: st) := by
  intro p e s m args below meth c ls hf hP hD hl
  exact lv_ishr hf.1 hf.2.1 hd  (k p e s m args below meth c ls hf hP hD hl)
theorem XR.idiv {x y : Int32} (hd : decode M.2.1 pc = .ok (.idiv, 1)) (hne : ¬ y = 0) (k : XR G M R F ws (pc + 1) lv (.int (x / y) :: st)) : XR G M R F ws pc lv (.int y :: .int x :: st) := by
  intro p e s m args below meth c ls hf hP hD hl
  exact lv_idiv hf.1 hf.2.1 hd hne (k p e s m args below meth c ls hf hP hD hl)
theorem XR.irem {x y : Int32} (hd : decode M.2.1 pc = .ok (.irem, 1)) (hne : ¬ y = 0) (k : XR G M R F ws (pc + 1) lv (.int (x - x / y * y) :: st)) : XR G M R F ws pc lv (.int y :: .int x :: st) := by
  intro p e s m args below meth c ls hf hP hD hl
  exact lv_irem hf.1 hf.2.1 hd hne (k p e s m args below meth c ls hf hP hD hl)
theorem XR.ineg {x : Int32} (hd : decode M.2.1 pc = .ok (.ineg, 1))  (k : XR G M R F ws (pc + 1) lv (.int (-x) :: st)) : XR G M R F ws pc lv (.int x :: st) := by
  intro p e s m args below meth c ls hf hP hD hl
  exact lv_ineg hf.1 hf.2.1 hd  (k p e s m args below meth c ls hf hP hD hl)
theorem XR.ladd {x y : Int64} (hd : decode M.2.1 pc = .ok (.ladd, 1))  (k : XR G M R F ws (pc + 1) lv (.long (x + y) :: st)) : XR G M R F ws pc lv (.long y :: .long x :: st) := by
  intro p e s m args below meth c ls hf hP hD hl
  exact lv_ladd hf.1 hf.2.1 hd  (k p e s m args below meth c ls hf hP hD hl)
theorem XR.lsub {x y : Int64} (hd : decode M.2.1 pc = .ok (.lsub, 1))  (k : XR G M R F ws (pc + 1) lv (.long (x - y) :: st)) : XR G M R F ws pc lv (.long y :: .long x :: st) := by
  intro p e s m args below meth c ls hf hP hD hl
  exact lv_lsub hf.1 hf.2.1 hd  (k p e s m args below meth c ls hf hP hD hl)
theorem XR.ldiv {x y : Int64} (hd : decode M.2.1 pc = .ok (.ldiv, 1)) (hne : ¬ y = 0) (k : XR G M R F ws (pc + 1) lv (.long (x / y) :: st)) : XR G M R F ws pc lv (.long y :: .long x :: st) := by
  intro p e s m args below meth c ls hf hP hD hl
  exact lv_ldiv hf.1 hf.2.1 hd hne (k p e s m args below meth c ls hf hP hD hl)
theorem XR.lcmp {x y : Int64} (hd : decode M.2.1 pc = .ok (.lcmp, 1))  (k : XR G M R F ws (pc + 1) lv (.int (lg_cmp x y) :: st)) : XR G M R F ws pc lv (.long y :: .long x :: st) := by
  intro p e s m args below meth c ls hf hP hD hl
  exact W.lcmp hf.1 hf.2.1 hd  (k p e s m args below meth c ls hf hP hD hl)
theorem XR.i2l {x : Int32} {v : Int64} (hd : decode M.2.1 pc = .ok (.i2l, 1)) (hv : x.toInt64 = v) (k : XR G M R F ws (pc + 1) lv (.long v :: st)) : XR G M R F ws pc lv (.int x :: st) := by
  intro p e s m args below meth c ls hf hP hD hl
  exact lv_i2l hf.1 hf.2.1 hd hv (k p e s m args below meth c ls hf hP hD hl)
theorem XR.l2i {x : Int64} {v : Int32} (hd : decode M.2.1 pc = .ok (.l2i, 1)) (hv : x.toInt32 = v) (k : XR G M R F ws (pc + 1) lv (.int v :: st)) : XR G M R F ws pc lv (.long x :: st) := by
  intro p e s m args below meth c ls hf hP hD hl
  exact lv_l2i hf.1 hf.2.1 hd hv (k p e s m args below meth c ls hf hP hD hl)
theorem XR.i2b {x : Int32} {v : Int32} (hd : decode M.2.1 pc = .ok (.i2b, 1)) (hv : x.toInt8.toInt32 = v) (k : XR G M R F ws (pc + 1) lv (.int v :: st)) : XR G M R F ws pc lv (.int x :: st) := by
  intro p e s m args below meth c ls hf hP hD hl
  exact lv_i2b hf.1 hf.2.1 hd hv (k p e s m args below meth c ls hf hP hD hl)
theorem XR.dup {va : Value} (hd : decode M.2.1 pc = .ok (.dup, 1)) (h1 : va.category = 1) (k : XR G M R F ws (pc + 1) lv (va :: va :: st)) : XR G M R F ws pc lv (va :: st) := by
  intro p e s m args below meth c ls hf hP hD hl
  exact lv_dup hf.1 hf.2.1 hd h1 (k p e s m args below meth c ls hf hP hD hl)
theorem XR.pop {va : Value} (hd : decode M.2.1 pc = .ok (.pop, 1)) (h1 : va.category = 1) (k : XR G M R F ws (pc + 1) lv (st)) : XR G M R F ws pc lv (va :: st) := by
  intro p e s m args below meth c ls hf hP hD hl
  exact lv_pop hf.1 hf.2.1 hd h1 (k p e s m args below meth c ls hf hP hD hl)
theorem XR.dup_x1 {va vb : Value} (hd : decode M.2.1 pc = .ok (.dup_x1, 1)) (h1 : va.category = 1) (h2 : vb.category = 1) (k : XR G M R F ws (pc + 1) lv (va :: vb :: va :: st)) : XR G M R F ws pc lv (va :: vb :: st) := by
  intro p e s m args below meth c ls hf hP hD hl
  exact lv_dup_x1 hf.1 hf.2.1 hd h1 h2 (k p e s m args below meth c ls hf hP hD hl)
theorem XR.dup_x2 {va vb vd : Value} (hd : decode M.2.1 pc = .ok (.dup_x2, 1)) (h1 : va.category = 1) (h2 : vb.category = 1) (h3 : vd.category = 1) (k : XR G M R F ws (pc + 1) lv (va :: vb :: vd :: va :: st)) : XR G M R F ws pc lv (va :: vb :: vd :: st) := by
  intro p e s m args below meth c ls hf hP hD hl
  exact lv_dup_x2 hf.1 hf.2.1 hd h1 h2 h3 (k p e s m args below meth c ls hf hP hD hl)
theorem XR.dup2 {va vb : Value} (hd : decode M.2.1 pc = .ok (.dup2, 1)) (h1 : va.category = 1) (h2 : vb.category = 1) (k : XR G M R F ws (pc + 1) lv (va :: vb :: va :: vb :: st)) : XR G M R F ws pc lv (va :: vb :: st) := by
  intro p e s m args below meth c ls hf hP hD hl
  exact lv_dup2_11 hf.1 hf.2.1 hd h1 h2 (k p e s m args below meth c ls hf hP hD hl)
theorem XR.ldc {idx : Nat} {v : Int32} (hd : decode M.2.1 pc = .ok (.ldc idx, 2)) (hw : Cond.constant M.1.cls idx v ∈ xw_g) (k : XR G M R F ws (pc + 2) lv (.int v :: st)) : XR G M R F ws pc lv st := by
  intro p e s m args below meth c ls hf hP hD hl
  exact lv_ldc hf.1 hf.2.1 hf.2.2.2.2.2.1 (hf.2.2.2.2.2.2.2.2.1 _ hw args) hd (k p e s m args below meth c ls hf hP hD hl)
theorem XR.goto {off : Int} {tgt : Nat} (hd : decode M.2.1 pc = .ok (.goto off, 3)) (ht : (pc : Int) + off = (tgt : Int)) (k : XR G M R F ws tgt lv st) : XR G M R F ws pc lv st := by
  intro p e s m args below meth c ls hf hP hD hl
  exact lv_goto hf.1 hf.2.1 hd ht (k p e s m args below meth c ls hf hP hD hl)
theorem XR.icmp_eq {x y : Int32} {off : Int} {tgt : Nat} (hd : decode M.2.1 pc = .ok (.if_icmp .eq off, 3)) (ht : (pc : Int) + off = (tgt : Int)) (kt : x = y → XR G M R F ws tgt lv st) (kf : ¬ x = y → XR G M R F ws (pc + 3) lv st) : XR G M R F ws pc lv (.int y :: .int x :: st) := by
  intro p e s m args below meth c ls hf hP hD hl
  exact lv_icmp_eq hf.1 hf.2.1 hd ht (fun h => kt h p e s m args below meth c ls hf hP hD hl) (fun h => kf h p e s m args below meth c ls hf hP hD hl)
theorem XR.if_eq {x : Int32} {off : Int} {tgt : Nat} (hd : decode M.2.1 pc = .ok (.ifCond .eq off, 3)) (ht : (pc : Int) + off = (tgt : Int)) (kt : x = 0 → XR G M R F ws tgt lv st) (kf : ¬ x = 0 → XR G M R F ws (pc + 3) lv st) : XR G M R F ws pc lv (.int x :: st) := by
  intro p e s m args below meth c ls hf hP hD hl
  exact lv_if_eq hf.1 hf.2.1 hd ht (fun h => kt h p e s m args below meth c ls hf hP hD hl) (fun h => kf h p e s m args below meth c ls hf hP hD hl)
theorem XR.ncmp_eq {a b : Nat} {off : Int} {tgt : Nat} (hd : decode M.2.1 pc = .ok (.if_icmp .eq off, 3)) (ht : (pc : Int) + off = (tgt : Int)) (ha : a < 2 ^ 31) (hb : b < 2 ^ 31) (kt : a = b → XR G M R F ws tgt lv st) (kf : a ≠ b → XR G M R F ws (pc + 3) lv st) : XR G M R F ws pc lv (.int (nI b) :: .int (nI a) :: st) := by
  have z := pk_eq (x := nI a) (y := nI b) a b (A := XR G M R F ws tgt lv st) (B := XR G M R F ws (pc + 3) lv st) (fun h => kt h) (fun h => kf h) rfl rfl ha hb
  exact XR.icmp_eq hd ht z.1 z.2
theorem XR.nif_eq {a : Nat} {off : Int} {tgt : Nat} (hd : decode M.2.1 pc = .ok (.ifCond .eq off, 3)) (ht : (pc : Int) + off = (tgt : Int)) (ha : a < 2 ^ 31) (kt : a = 0 → XR G M R F ws tgt lv st) (kf : 0 < a → XR G M R F ws (pc + 3) lv st) : XR G M R F ws pc lv (.int (nI a) :: st) := by
  have z := pk_eq (x := nI a) (y := (0 : Int32)) a 0 (A := XR G M R F ws tgt lv st) (B := XR G M R F ws (pc + 3) lv st) (fun h => kt (by omega)) (fun h => kf (by omega)) rfl rfl ha (by decide)
  exact XR.if_eq hd ht z.1 z.2
theorem XR.icmp_ne {x y : Int32} {off : Int} {tgt : Nat} (hd : decode M.2.1 pc = .ok (.if_icmp .ne off, 3)) (ht : (pc : Int) + off = (tgt : Int)) (kt : ¬ x = y → XR G M R F ws tgt lv st) (kf : x = y → XR G M R F ws (pc + 3) lv st) : XR G M R F ws pc lv (.int y :: .int x :: st) := by
  intro p e s m args below meth c ls hf hP hD hl
  exact lv_icmp_ne hf.1 hf.2.1 hd ht (fun h => kt h p e s m args below meth c ls hf hP hD hl) (fun h => kf h p e s m args below meth c ls hf hP hD hl)
theorem XR.if_ne {x : Int32} {off : Int} {tgt : Nat} (hd : decode M.2.1 pc = .ok (.ifCond .ne off, 3)) (ht : (pc : Int) + off = (tgt : Int)) (kt : ¬ x = 0 → XR G M R F ws tgt lv st) (kf : x = 0 → XR G M R F ws (pc + 3) lv st) : XR G M R F ws pc lv (.int x :: st) := by
  intro p e s m args below meth c ls hf hP hD hl
  exact lv_if_ne hf.1 hf.2.1 hd ht (fun h => kt h p e s m args below meth c ls hf hP hD hl) (fun h => kf h p e s m args below meth c ls hf hP hD hl)
theorem XR.ncmp_ne {a b : Nat} {off : Int} {tgt : Nat} (hd : decode M.2.1 pc = .ok (.if_icmp .ne off, 3)) (ht : (pc : Int) + off = (tgt : Int)) (ha : a < 2 ^ 31) (hb : b < 2 ^ 31) (kt : a ≠ b → XR G M R F ws tgt lv st) (kf : a = b → XR G M R F ws (pc + 3) lv st) : XR G M R F ws pc lv (.int (nI b) :: .int (nI a) :: st) := by
  have z := pk_eq (x := nI a) (y := nI b) a b (A := XR G M R F ws (pc + 3) lv st) (B := XR G M R F ws tgt lv st) (fun h => kf h) (fun h => kt h) rfl rfl ha hb
  exact XR.icmp_ne hd ht z.2 z.1
theorem XR.nif_ne {a : Nat} {off : Int} {tgt : Nat} (hd : decode M.2.1 pc = .ok (.ifCond .ne off, 3)) (ht : (pc : Int) + off = (tgt : Int)) (ha : a < 2 ^ 31) (kt : 0 < a → XR G M R F ws tgt lv st) (kf : a = 0 → XR G M R F ws (pc + 3) lv st) : XR G M R F ws pc lv (.int (nI a) :: st) := by
  have z := pk_eq (x := nI a) (y := (0 : Int32)) a 0 (A := XR G M R F ws (pc + 3) lv st) (B := XR G M R F ws tgt lv st) (fun h => kf (by omega)) (fun h => kt (by omega)) rfl rfl ha (by decide)
  exact XR.if_ne hd ht z.2 z.1
theorem XR.icmp_lt {x y : Int32} {off : Int} {tgt : Nat} (hd : decode M.2.1 pc = .ok (.if_icmp .lt off, 3)) (ht : (pc : Int) + off = (tgt : Int)) (kt : x < y → XR G M R F ws tgt lv st) (kf : ¬ x < y → XR G M R F ws (pc + 3) lv st) : XR G M R F ws pc lv (.int y :: .int x :: st) := by
  intro p e s m args below meth c ls hf hP hD hl
  exact lv_icmp_lt hf.1 hf.2.1 hd ht (fun h => kt h p e s m args below meth c ls hf hP hD hl) (fun h => kf h p e s m args below meth c ls hf hP hD hl)
theorem XR.if_lt {x : Int32} {off : Int} {tgt : Nat} (hd : decode M.2.1 pc = .ok (.ifCond .lt off, 3)) (ht : (pc : Int) + off = (tgt : Int)) (kt : x < 0 → XR G M R F ws tgt lv st) (kf : ¬ x < 0 → XR G M R F ws (pc + 3) lv st) : XR G M R F ws pc lv (.int x :: st) := by
  intro p e s m args below meth c ls hf hP hD hl
  exact lv_if_lt hf.1 hf.2.1 hd ht (fun h => kt h p e s m args below meth c ls hf hP hD hl) (fun h => kf h p e s m args below meth c ls hf hP hD hl)
theorem XR.ncmp_lt {a b : Nat} {off : Int} {tgt : Nat} (hd : decode M.2.1 pc = .ok (.if_icmp .lt off, 3)) (ht : (pc : Int) + off = (tgt : Int)) (ha : a < 2 ^ 31) (hb : b < 2 ^ 31) (kt : a < b → XR G M R F ws tgt lv st) (kf : b ≤ a → XR G M R F ws (pc + 3) lv st) : XR G M R F ws pc lv (.int (nI b) :: .int (nI a) :: st) := by
  have z := pk_lt (x := nI a) (y := nI b) a b (A := XR G M R F ws tgt lv st) (B := XR G M R F ws (pc + 3) lv st) (fun h => kt h) (fun h => kf h) rfl rfl ha hb
  exact XR.icmp_lt hd ht z.1 z.2
theorem XR.icmp_ge {x y : Int32} {off : Int} {tgt : Nat} (hd : decode M.2.1 pc = .ok (.if_icmp .ge off, 3)) (ht : (pc : Int) + off = (tgt : Int)) (kt : y ≤ x → XR G M R F ws tgt lv st) (kf : ¬ y ≤ x → XR G M R F ws (pc + 3) lv st) : XR G M R F ws pc lv (.int y :: .int x :: st) := by
  intro p e s m args below meth c ls hf hP hD hl
  exact lv_icmp_ge hf.1 hf.2.1 hd ht (fun h => kt h p e s m args below meth c ls hf hP hD hl) (fun h => kf h p e s m args below meth c ls hf hP hD hl)
theorem XR.if_ge {x : Int32} {off : Int} {tgt : Nat} (hd : decode M.2.1 pc = .ok (.ifCond .ge off, 3)) (ht : (pc : Int) + off = (tgt : Int)) (kt : 0 ≤ x → XR G M R F ws tgt lv st) (kf : ¬ 0 ≤ x → XR G M R F ws (pc + 3) lv st) : XR G M R F ws pc lv (.int x :: st) := by
  intro p e s m args below meth c ls hf hP hD hl
  exact lv_if_ge hf.1 hf.2.1 hd ht (fun h => kt h p e s m args below meth c ls hf hP hD hl) (fun h => kf h p e s m args below meth c ls hf hP hD hl)
theorem XR.ncmp_ge {a b : Nat} {off : Int} {tgt : Nat} (hd : decode M.2.1 pc = .ok (.if_icmp .ge off, 3)) (ht : (pc : Int) + off = (tgt : Int)) (ha : a < 2 ^ 31) (hb : b < 2 ^ 31) (kt : b ≤ a → XR G M R F ws tgt lv st) (kf : a < b → XR G M R F ws (pc + 3) lv st) : XR G M R F ws pc lv (.int (nI b) :: .int (nI a) :: st) := by
  have z := pk_le (x := nI b) (y := nI a) b a (A := XR G M R F ws tgt lv st) (B := XR G M R F ws (pc + 3) lv st) (fun h => kt h) (fun h => kf h) rfl rfl hb ha
  exact XR.icmp_ge hd ht z.1 z.2
theorem XR.icmp_gt {x y : Int32} {off : Int} {tgt : Nat} (hd : decode M.2.1 pc = .ok (.if_icmp .gt off, 3)) (ht : (pc : Int) + off = (tgt : Int)) (kt : y < x → XR G M R F ws tgt lv st) (kf : ¬ y < x → XR G M R F ws (pc + 3) lv st) : XR G M R F ws pc lv (.int y :: .int x :: st) := by
  intro p e s m args below meth c ls hf hP hD hl
  exact lv_icmp_gt hf.1 hf.2.1 hd ht (fun h => kt h p e s m args below meth c ls hf hP hD hl) (fun h => kf h p e s m args below meth c ls hf hP hD hl)
theorem XR.if_gt {x : Int32} {off : Int} {tgt : Nat} (hd : decode M.2.1 pc = .ok (.ifCond .gt off, 3)) (ht : (pc : Int) + off = (tgt : Int)) (kt : 0 < x → XR G M R F ws tgt lv st) (kf : ¬ 0 < x → XR G M R F ws (pc + 3) lv st) : XR G M R F ws pc lv (.int x :: st) := by
  intro p e s m args below meth c ls hf hP hD hl
  exact lv_if_gt hf.1 hf.2.1 hd ht (fun h => kt h p e s m args below meth c ls hf hP hD hl) (fun h => kf h p e s m args below meth c ls hf hP hD hl)
theorem XR.ncmp_gt {a b : Nat} {off : Int} {tgt : Nat} (hd : decode M.2.1 pc = .ok (.if_icmp .gt off, 3)) (ht : (pc : Int) + off = (tgt : Int)) (ha : a < 2 ^ 31) (hb : b < 2 ^ 31) (kt : b < a → XR G M R F ws tgt lv st) (kf : a ≤ b → XR G M R F ws (pc + 3) lv st) : XR G M R F ws pc lv (.int (nI b) :: .int (nI a) :: st) := by
  have z := pk_lt (x := nI b) (y := nI a) b a (A := XR G M R F ws tgt lv st) (B := XR G M R F ws (pc + 3) lv st) (fun h => kt h) (fun h => kf h) rfl rfl hb ha
  exact XR.icmp_gt hd ht z.1 z.2
theorem XR.nif_gt {a : Nat} {off : Int} {tgt : Nat} (hd : decode M.2.1 pc = .ok (.ifCond .gt off, 3)) (ht : (pc : Int) + off = (tgt : Int)) (ha : a < 2 ^ 31) (kt : 0 < a → XR G M R F ws tgt lv st) (kf : a = 0 → XR G M R F ws (pc + 3) lv st) : XR G M R F ws pc lv (.int (nI a) :: st) := by
  have z := pk_lt (x := (0 : Int32)) (y := nI a) 0 a (A := XR G M R F ws tgt lv st) (B := XR G M R F ws (pc + 3) lv st) (fun h => kt (by omega)) (fun h => kf (by omega)) rfl rfl (by decide) ha
  exact XR.if_gt hd ht z.1 z.2
theorem XR.icmp_le {x y : Int32} {off : Int} {tgt : Nat} (hd : decode M.2.1 pc = .ok (.if_icmp .le off, 3)) (ht : (pc : Int) + off = (tgt : Int)) (kt : x ≤ y → XR G M R F ws tgt lv st) (kf : ¬ x ≤ y → XR G M R F ws (pc + 3) lv st) : XR G M R F ws pc lv (.int y :: .int x :: st) := by
  intro p e s m args below meth c ls hf hP hD hl
  exact lv_icmp_le hf.1 hf.2.1 hd ht (fun h => kt h p e s m args below meth c ls hf hP hD hl) (fun h => kf h p e s m args below meth c ls hf hP hD hl)
theorem XR.if_le {x : Int32} {off : Int} {tgt : Nat} (hd : decode M.2.1 pc = .ok (.ifCond .le off, 3)) (ht : (pc : Int) + off = (tgt : Int)) (kt : x ≤ 0 → XR G M R F ws tgt lv st) (kf : ¬ x ≤ 0 → XR G M R F ws (pc + 3) lv st) : XR G M R F ws pc lv (.int x :: st) := by
  intro p e s m args below meth c ls hf hP hD hl
  exact lv_if_le hf.1 hf.2.1 hd ht (fun h => kt h p e s m args below meth c ls hf hP hD hl) (fun h => kf h p e s m args below meth c ls hf hP hD hl)
theorem XR.ncmp_le {a b : Nat} {off : Int} {tgt : Nat} (hd : decode M.2.1 pc = .ok (.if_icmp .le off, 3)) (ht : (pc : Int) + off = (tgt : Int)) (ha : a < 2 ^ 31) (hb : b < 2 ^ 31) (kt : a ≤ b → XR G M R F ws tgt lv st) (kf : b < a → XR G M R F ws (pc + 3) lv st) : XR G M R F ws pc lv (.int (nI b) :: .int (nI a) :: st) := by
  have z := pk_le (x := nI a) (y := nI b) a b (A := XR G M R F ws tgt lv st) (B := XR G M R F ws (pc + 3) lv st) (fun h => kt h) (fun h => kf h) rfl rfl ha hb
  exact XR.icmp_le hd ht z.1 z.2
theorem XR.nif_le {a : Nat} {off : Int} {tgt : Nat} (hd : decode M.2.1 pc = .ok (.ifCond .le off, 3)) (ht : (pc : Int) + off = (tgt : Int)) (ha : a < 2 ^ 31) (kt : a = 0 → XR G M R F ws tgt lv st) (kf : 0 < a → XR G M R F ws (pc + 3) lv st) : XR G M R F ws pc lv (.int (nI a) :: st) := by
  have z := pk_le (x := nI a) (y := (0 : Int32)) a 0 (A := XR G M R F ws tgt lv st) (B := XR G M R F ws (pc + 3) lv st) (fun h => kt (by omega)) (fun h => kf (by omega)) rfl rfl ha (by decide)
  exact XR.if_le hd ht z.1 z.2
theorem XR.tabIn {dflt lo hi : Int} {offs : Array Int} {len : Nat} {x : Int32} {off : Int} {tgt : Nat} (hd : decode M.2.1 pc = .ok (.tableswitch dflt lo hi offs, len)) (h1 : ¬ x.toInt < lo) (h2 : ¬ hi < x.toInt) (ho : offs[(x.toInt - lo).toNat]? = some off) (ht : (pc : Int) + off = (tgt : Int)) (k : XR G M R F ws tgt lv st) : XR G M R F ws pc lv (.int x :: st) := by
  intro p e s m args below meth c ls hf hP hD hl
  exact lv_tableIn hf.1 hf.2.1 hd h1 h2 ho ht (k p e s m args below meth c ls hf hP hD hl)
theorem XR.tabOut {dflt lo hi : Int} {offs : Array Int} {len : Nat} {x : Int32} {tgt : Nat} (hd : decode M.2.1 pc = .ok (.tableswitch dflt lo hi offs, len)) (h : x.toInt < lo ∨ hi < x.toInt) (ht : (pc : Int) + dflt = (tgt : Int)) (k : XR G M R F ws tgt lv st) : XR G M R F ws pc lv (.int x :: st) := by
  intro p e s m args below meth c ls hf hP hD hl
  exact lv_tableOut hf.1 hf.2.1 hd h ht (k p e s m args below meth c ls hf hP hD hl)
theorem XR.tp {x y : Int32} (h : x = y) (k : XR G M R F ws pc lv (.int y :: st)) : XR G M R F ws pc lv (.int x :: st) := by rw [h]; exact k
theorem XR.cg {ws2 : va_W} {lv2 : List (Nat × Value)} {st2 : List Value} (h1 : ws = ws2) (h2 : lv = lv2) (h3 : st = st2) (k : XR G M R F ws2 pc lv2 st2) : XR G M R F ws pc lv st := by rw [h1, h2, h3]; exact k
theorem XR.lvs {lv2 : List (Nat × Value)} (is : List Nat) (h : lv_pick lv is = lv2) (k : XR G M R F ws pc lv2 st) : XR G M R F ws pc lv st := by
  intro p e s m args below meth c ls hf hP hD hl
  exact k p e s m args below meth c ls hf hP hD (lv_sub hl is h)
theorem XR.sub {ws2 : va_W} (is : List Nat) (h1 : is.filterMap (fun i => ws[i]?) = ws2) (hn : va_nd is = true) (h2 : is.map (fun i => ws[i]?) = ws2.map some) (k : XR G M R F ws2 pc lv st) : XR G M R F ws pc lv st := by
  intro p e s m args below meth c ls hf hP hD hl
  exact k p e s m args below meth c ls hf (hP.sub is h1) (hD.sub is hn h2) hl
theorem XR.wm {ws2 : va_W} (h1 : ∀ H : Heap, va_P G.1 xc_cl ws H → va_P G.1 xc_cl ws2 H) (h2 : va_D (xg_A G) ws → va_D (xg_A G) ws2) (k : XR G M R F ws2 pc lv st) : XR G M R F ws pc lv st := by
  intro p e s m args below meth c ls hf hP hD hl
  exact k p e s m args below meth c ls hf (h1 _ hP) (h2 hD) hl
theorem XR.get {idx ci f q0 a : Nat} {fs : List Value} {v : Value} (hl0 : xx_fl M.1.cls idx ci f) (hd : decode M.2.1 pc = .ok (.getfield idx, 3)) (he : ws[q0]? = some (a, .inr (ci, fs))) (hv : fs[f]? = some v) (k : XR G M R F ws (pc + 3) lv (v :: st)) : XR G M R F ws pc lv (.ref a :: st) := by
  intro p e s m args below meth c ls hf hP hD hl
  obtain ⟨C, T, N, ty, hcf, hk, hlk⟩ := hl0
  have hen := hf.2.2.2.2.2.2.2.2
  have hts : ∀ w ∈ xw_g, w.before args s = true := fun w h => hen.1 w h args
  rcases hlk with hlk | ⟨host, hlk⟩
  · exact va_get (D := G.1) hf.1 hf.2.1 hts hcf.2.1 hf.2.2.2.2.2.1 hen.2.2 hP q0 he hcf.1 f hk (hts _ hlk) (fun _ h => h) hv hd (k p e s m args below meth c ls hf hP hD hl)
  · exact va_getN (D := G.1) hf.1 hf.2.1 hts hcf.2.1 hf.2.2.2.2.2.1 hen.2.2 hP q0 he hcf.1 f hk (va_Nw.use rfl (hen.2.1.1 _ hlk)) (fun _ h => h) hv hd (k p e s m args below meth c ls hf hP hD hl)
theorem XR.iald {q0 a n j : Nat} {f : Nat → Int32} (hd : decode M.2.1 pc = .ok (.iaload, 1)) (he : ws[q0]? = some (a, .inl (G.2.1 1, n, .inl f))) (hj : j < n) (hn : n < 2 ^ 31) (k : XR G M R F ws (pc + 1) lv (.int (f j) :: st)) : XR G M R F ws pc lv (.int (nI j) :: .ref a :: st) := by
  intro p e s m args below meth c ls hf hP hD hl
  refine va_iald (D := G.1) hf.1 hf.2.1 hf.2.2.2.2.2.2.2.2.2.2 hP q0 1 he rfl (pk_in j n hj rfl hn) hd ?_
  rw [pk_cl j rfl (by omega)]
  exact k p e s m args below meth c ls hf hP hD hl
theorem XR.bald {q0 a n j : Nat} {f : Nat → Int32} (hd : decode M.2.1 pc = .ok (.baload, 1)) (he : ws[q0]? = some (a, .inl (G.2.1 0, n, .inl f))) (hj : j < n) (hn : n < 2 ^ 31) (k : XR G M R F ws (pc + 1) lv (.int (f j) :: st)) : XR G M R F ws pc lv (.int (nI j) :: .ref a :: st) := by
  intro p e s m args below meth c ls hf hP hD hl
  refine va_bald (D := G.1) hf.1 hf.2.1 hf.2.2.2.2.2.2.2.2.2.2 hP q0 0 he rfl (pk_in j n hj rfl hn) hd ?_
  rw [pk_cl j rfl (by omega)]
  exact k p e s m args below meth c ls hf hP hD hl
theorem XR.lald {q0 a n j : Nat} {f : Nat → Int64} (hd : decode M.2.1 pc = .ok (.laload, 1)) (he : ws[q0]? = some (a, .inl (G.2.1 2, n, .inr (.inl f)))) (hj : j < n) (hn : n < 2 ^ 31) (k : XR G M R F ws (pc + 1) lv (.long (f j) :: st)) : XR G M R F ws pc lv (.int (nI j) :: .ref a :: st) := by
  intro p e s m args below meth c ls hf hP hD hl
  refine va_lald (D := G.1) hf.1 hf.2.1 hf.2.2.2.2.2.2.2.2.2.2 hP q0 2 he rfl (pk_in j n hj rfl hn) hd ?_
  rw [pk_cl j rfl (by omega)]
  exact k p e s m args below meth c ls hf hP hD hl
theorem XR.aald {q0 a n j : Nat} {f : Nat → Option Nat} (hd : decode M.2.1 pc = .ok (.aaload, 1)) (he : ws[q0]? = some (a, .inl (G.2.1 3, n, .inr (.inr (.inr (.inr f)))))) (hj : j < n) (hn : n < 2 ^ 31) (k : XR G M R F ws (pc + 1) lv (va_rf (f j) :: st)) : XR G M R F ws pc lv (.int (nI j) :: .ref a :: st) := by
  intro p e s m args below meth c ls hf hP hD hl
  refine va_aldq (D := G.1) hf.1 hf.2.1 hf.2.2.2.2.2.2.2.2.2.2 hP q0 3 he rfl (pk_in j n hj rfl hn) hd ?_
  rw [pk_cl j rfl (by omega)]
  exact k p e s m args below meth c ls hf hP hD hl
theorem XR.alen {q0 a t0 : Nat} {x : vp_A} {ty : FieldType} (hd : decode M.2.1 pc = .ok (.arraylength, 1)) (he : ws[q0]? = some (a, .inl (G.2.1 t0, x))) (ht : (xg_ty G)[t0]? = some (G.2.1 t0, ty)) (k : XR G M R F ws (pc + 1) lv (.int (nI x.1) :: st)) : XR G M R F ws pc lv (.ref a :: st) := by
  intro p e s m args below meth c ls hf hP hD hl
  exact va_alen (D := G.1) hf.1 hf.2.1 hf.2.2.2.2.2.2.2.2.2.2 hP q0 t0 he ht rfl hd (k p e s m args below meth c ls hf hP hD hl)
theorem XR.mmin {idx : Nat} {x y : Int32} (hd : decode M.2.1 pc = .ok (.invokestatic idx, 3)) (h1 : Cond.methodLink M.1.cls idx Lib.Math.min.name ∈ xw_g) (h2 : Cond.static Lib.Math.min.name ∈ xw_g) (h3 : Cond.initialized "java/lang/Math" ∈ xw_g) (h4 : Cond.code Lib.Math.min.name Lib.Math.min.code 2 (some .int) ∈ xw_g) (hR : 1 ≤ R.frames) (hR2 : (st.map fun v => v.category).sum + 13 ≤ R.locals) (hC : 0 ≤ R.cells ∧ 0 ≤ R.slots) (k : XR G M R F ws (pc + 3) lv (.int (if y < x then y else x) :: st)) : XR G M R F ws pc lv (.int y :: .int x :: st) := by
  intro p e s m args below meth c ls hf hP hD hl
  have hen := hf.2.2.2.2.2.2.2.2
  exact va_mmin hf.1 hf.2.1 (by rw [hf.2.2.1]; exact hl.1.symm) hf.2.2.2.2.2.1 (hen.1 _ h1 args) (hen.1 _ h2 args) (hen.1 _ h3 args) (hen.1 _ h4 args) hR hR2 hC.1 hC.2 hd (k p e s m args below meth c ls hf hP hD hl)
theorem XR.mmax {idx : Nat} {x y : Int32} (hd : decode M.2.1 pc = .ok (.invokestatic idx, 3)) (h1 : Cond.methodLink M.1.cls idx Lib.Math.max.name ∈ xw_g) (h2 : Cond.static Lib.Math.max.name ∈ xw_g) (h3 : Cond.initialized "java/lang/Math" ∈ xw_g) (h4 : Cond.code Lib.Math.max.name Lib.Math.max.code 2 (some .int) ∈ xw_g) (hR : 1 ≤ R.frames) (hR2 : (st.map fun v => v.category).sum + 13 ≤ R.locals) (hC : 0 ≤ R.cells ∧ 0 ≤ R.slots) (k : XR G M R F ws (pc + 3) lv (.int (if x < y then y else x) :: st)) : XR G M R F ws pc lv (.int y :: .int x :: st) := by
  intro p e s m args below meth c ls hf hP hD hl
  have hen := hf.2.2.2.2.2.2.2.2
  exact va_mmax hf.1 hf.2.1 (by rw [hf.2.2.1]; exact hl.1.symm) hf.2.2.2.2.2.1 (hen.1 _ h1 args) (hen.1 _ h2 args) (hen.1 _ h3 args) (hen.1 _ h4 args) hR hR2 hC.1 hC.2 hd (k p e s m args below meth c ls hf hP hD hl)
theorem XR.callS {Mk : XM} {n idx d : Nat} {As rest : List Value} {r : Option Value} (hM : MR G Mk (xr d 0 0) As ws r) (hk : xx_mt Mk n) (hst : Cond.static Mk.1 ∈ xw_g) (hlk : Cond.methodLink M.1.cls idx Mk.1 ∈ xw_g) (hn : As.length = n) (hd : decode M.2.1 pc = .ok (.invokestatic idx, 3)) (hR : d + 1 ≤ R.frames ∧ 8 + (Mk.2.2.1 + 11) + 40 * d ≤ R.locals) (hw : (rest.map fun v => v.category).sum ≤ 8) (hst0 : st = As.reverse ++ rest)
    (k : XR G M R F ws (pc + 3) lv (r.toList ++ rest)) : XR G M R F ws pc lv st := by
  intro p e s m args below meth c ls hf hP hD hl
  subst hst0
  have hen := hf.2.2.2.2.2.2.2.2
  have hts : ∀ w ∈ xw_g, w.before args s = true := fun w h => hen.1 w h args
  exact xr_after (va_runS (Ts := xw_g) (own := M.1.cls) ⟨hf.1, hf.2.1, hf.2.2.1, hf.2.2.2.2.2.1, hts⟩ hM ⟨callB_of n hts (xx_good hk.1) rfl rfl rfl (hts _ hk.2.1) (hts _ hlk) hk.2.2 hR, hts _ hst⟩ ⟨xx_blind G As ws, fun U hU hW => ⟨rfl, by rw [hU]; exact hf.2.2.2.2.2.2.2.1, hen.moved hW (fun _ _ _ => by rw [hU]), by rw [hU]; exact hP, hD⟩⟩ rfl hn hl.1 rfl (lv_room hw) hd ⟨Nat.zero_le _, Nat.zero_le _⟩) (k p e s m args below meth c ls hf hP hD hl)
theorem XR.callV {Mk : XM} {n idx ci q0 b d : Nat} {As rest fs : List Value} {q : vw_C} {r : Option Value} (hM : MR G Mk (xr d 0 0) (.ref b :: As) ws r) (hk : xx_mt Mk n) (hi : Cond.instanceMethod Mk.1 ∈ xw_g ∧ Cond.selects Mk.1.cls Mk.1 Mk.1 ∈ xw_g) (hlk : Cond.methodLink M.1.cls idx Mk.1 ∈ xw_g ∨ ∃ host : String, Cond.methodLinkNest M.1.cls idx Mk.1 host ∈ xw_n) (hn : As.length = n) (hd : decode M.2.1 pc = .ok (.invokevirtual idx, 3)) (he : ws[q0]? = some (b, .inr (ci, fs))) (hc : xc_cl[ci]? = some q) (hq : q.1 = Mk.1.cls) (hR : d + 1 ≤ R.frames ∧ 8 + (Mk.2.2.1 + 11) + 40 * d ≤ R.locals) (hw : (rest.map fun v => v.category).sum ≤ 8) (hst0 : st = As.reverse ++ .ref b :: rest)
    (k : XR G M R F ws (pc + 3) lv (r.toList ++ rest)) : XR G M R F ws pc lv st := by
  intro p e s m args below meth c ls hf hP hD hl
  subst hst0
  have hen := hf.2.2.2.2.2.2.2.2
  have hts : ∀ w ∈ xw_g, w.before args s = true := fun w h => hen.1 w h args
  have hrc := va_recv hen.2.2 hP hc he
  rw [hq] at hrc
  have hp : PreV s s.heap Mk.1.cls b (xx_pc G (.ref b :: As) ws) As := ⟨xx_blind G _ ws, hrc, fun U hU hW => ⟨rfl, by rw [hU]; exact hf.2.2.2.2.2.2.2.1, hen.moved hW (fun _ _ _ => by rw [hU]), by rw [hU]; exact hP, hD⟩⟩
  rcases hlk with hlk | ⟨host, hlk⟩
  · exact xr_after (va_runV (Ts := xw_g) (own := M.1.cls) ⟨hf.1, hf.2.1, hf.2.2.1, hf.2.2.2.2.2.1, hts⟩ hM ⟨callB_of n hts (xx_good hk.1) rfl rfl rfl (hts _ hk.2.1) (hts _ hlk) hk.2.2 hR, hts _ hi.1, hts _ hi.2⟩ hp rfl hn hl.1 rfl (lv_room hw) hd ⟨Nat.zero_le _, Nat.zero_le _⟩) (k p e s m args below meth c ls hf hP hD hl)
  · exact xr_after (va_runVN (Ts := xw_g) (own := M.1.cls) ⟨hf.1, hf.2.1, hf.2.2.1, hf.2.2.2.2.2.1, hts⟩ hM ⟨va_cnB n hts (xx_good hk.1) rfl rfl rfl (hen.2.1.1 _ hlk) (hts _ hk.2.1) hk.2.2 hR, hts _ hi.1, hts _ hi.2⟩ hp rfl hn hl.1 rfl (lv_room hw) hd ⟨Nat.zero_le _, Nat.zero_le _⟩) (k p e s m args below meth c ls hf hP hD hl)
theorem XR.iret {v : Int32} (hd : decode M.2.1 pc = .ok (.ireturn, 1)) (hr : M.2.2.2 = some .int) : XR G M R (xr_F (some (.int v))) ws pc lv [.int v] := by
  intro p e s m args below meth c ls hf hP hD hl
  exact W.iret hf.1 hf.2.1 (hf.2.2.2.1.trans hr) (fun t ht hW => ⟨rfl, ht⟩) (fun q h => by cases h) hd hf.2.2.2.2.1
theorem XR.zret {v : Int32} (hd : decode M.2.1 pc = .ok (.ireturn, 1)) (hr : M.2.2.2 = some .boolean) (hn : narrow .boolean (.int v) = .int v) : XR G M R (xr_F (some (.int v))) ws pc lv [.int v] := by
  intro p e s m args below meth c ls hf hP hD hl
  exact W.zret hf.1 hf.2.1 (hf.2.2.2.1.trans hr) hn (fun t ht hW => ⟨rfl, ht⟩) (fun q h => by cases h) hd hf.2.2.2.2.1
theorem XR.aret {a : Nat} {t : FieldType} (hd : decode M.2.1 pc = .ok (.areturn, 1)) (hr : M.2.2.2 = some t) (ht : (∃ n, t = .object n) ∨ ∃ u, t = .array u) : XR G M R (xr_F (some (.ref a))) ws pc lv [.ref a] := by
  intro p e s m args below meth c ls hf hP hD hl
  exact W.aret hf.1 hf.2.1 (hf.2.2.2.1.trans hr) ht (Or.inr ⟨a, rfl⟩) (fun t ht hW => ⟨rfl, ht⟩) (fun q h => by cases h) hd hf.2.2.2.2.1
theorem XX.callSr {Mk : XM} {n idx d : Nat} {As rest : List Value} {r : Option Value} (hM : MR G Mk (xr d 0 0) As ws r) (hk : xx_mt Mk n) (hst : Cond.static Mk.1 ∈ xw_g) (hlk : Cond.methodLink M.1.cls idx Mk.1 ∈ xw_g) (hn : As.length = n) (hd : decode M.2.1 pc = .ok (.invokestatic idx, 3)) (hR : d + 1 ≤ R.frames ∧ 8 + (Mk.2.2.1 + 11) + 40 * d ≤ R.locals) (hC : cells ≤ R.cells ∧ slots ≤ R.slots) (hw : (rest.map fun v => v.category).sum ≤ 8) (hst0 : st = As.reverse ++ rest)
    (k : XX G M R F cells slots ws (pc + 3) lv (r.toList ++ rest)) : XX G M R F cells slots ws pc lv st := by
  refine XX.callS hM.mm hk hst hlk hn hd hR ⟨hC.1, hC.2⟩ hw hst0 (fun r1 ws1 h => ?_)
  obtain ⟨h1, h2⟩ := h
  rw [h1, h2]
  exact k
theorem XX.callVr {Mk : XM} {n idx ci q0 b d : Nat} {As rest fs : List Value} {q : vw_C} {r : Option Value} (hM : MR G Mk (xr d 0 0) (.ref b :: As) ws r) (hk : xx_mt Mk n) (hi : Cond.instanceMethod Mk.1 ∈ xw_g ∧ Cond.selects Mk.1.cls Mk.1 Mk.1 ∈ xw_g) (hlk : Cond.methodLink M.1.cls idx Mk.1 ∈ xw_g ∨ ∃ host : String, Cond.methodLinkNest M.1.cls idx Mk.1 host ∈ xw_n) (hn : As.length = n) (hd : decode M.2.1 pc = .ok (.invokevirtual idx, 3)) (he : ws[q0]? = some (b, .inr (ci, fs))) (hc : xc_cl[ci]? = some q) (hq : q.1 = Mk.1.cls) (hR : d + 1 ≤ R.frames ∧ 8 + (Mk.2.2.1 + 11) + 40 * d ≤ R.locals) (hC : cells ≤ R.cells ∧ slots ≤ R.slots) (hw : (rest.map fun v => v.category).sum ≤ 8) (hst0 : st = As.reverse ++ .ref b :: rest)
    (k : XX G M R F cells slots ws (pc + 3) lv (r.toList ++ rest)) : XX G M R F cells slots ws pc lv st := by
  refine XX.callV hM.mm hk hi hlk hn hd he hc hq hR ⟨hC.1, hC.2⟩ hw hst0 (fun r1 ws1 h => ?_)
  obtain ⟨h1, h2⟩ := h
  rw [h1, h2]
  exact k
end
end
section
theorem xn_le {a b : Nat} (h : Nat.ble a b = true) : a ≤ b := Nat.le_of_ble_eq_true h
theorem xn_dec {a : Nat} (h : 1 ≤ a) : nI a + Int32.ofInt (-1) = nI (a - 1) := by
  have e : nI a = nI (a - 1) + 1 := by rw [← nI_succ]; congr 1; omega
  rw [e, Int32.add_assoc]
  have e2 : (1 : Int32) + Int32.ofInt (-1) = 0 := by decide
  rw [e2, Int32.add_zero]
theorem xn_inc (a k : Nat) : nI a + Int32.ofInt (k : Int) = nI (a + k) := by
  have e : Int32.ofInt (k : Int) = nI k := by
    simp [nI, Int32.ofInt_eq_ofNat]
  rw [e, nI_add]
theorem xn_ne0 {a : Nat} (h : 0 < a) (h2 : a < 2 ^ 31) : ¬ nI a = 0 := nI_ne0 h h2
theorem xn_lt {a b : Nat} (ha : a < 2 ^ 31) (hb : b < 2 ^ 31) : (nI a < nI b) ↔ a < b := by
  rw [Int32.lt_iff_toInt_lt, nI_toInt ha, nI_toInt hb]; omega
theorem xn_leI {a b : Nat} (ha : a < 2 ^ 31) (hb : b < 2 ^ 31) : (nI a ≤ nI b) ↔ a ≤ b := by
  rw [Int32.le_iff_toInt_le, nI_toInt ha, nI_toInt hb]; omega
theorem xn_inj {a b : Nat} (ha : a < 2 ^ 31) (hb : b < 2 ^ 31) : (nI a = nI b) ↔ a = b := by
  constructor
  · intro h
    have := congrArg Int32.toInt h
    rw [nI_toInt ha, nI_toInt hb] at this
    omega
  · intro h; rw [h]
theorem xn_min {a b : Nat} (ha : a < 2 ^ 31) (hb : b < 2 ^ 31) : (if nI b < nI a then nI b else nI a) = nI (min a b) := by
  by_cases h : b < a
  · rw [if_pos ((xn_lt hb ha).mpr h), Nat.min_eq_right (by omega)]
  · rw [if_neg (fun z => h ((xn_lt hb ha).mp z)), Nat.min_eq_left (by omega)]
theorem xn_max {a b : Nat} (ha : a < 2 ^ 31) (hb : b < 2 ^ 31) : (if nI a < nI b then nI b else nI a) = nI (max a b) := by
  by_cases h : a < b
  · rw [if_pos ((xn_lt ha hb).mpr h), Nat.max_eq_right (by omega)]
  · rw [if_neg (fun z => h ((xn_lt ha hb).mp z)), Nat.max_eq_left (by omega)]
def bI (b : Bool) : Int32 := if b = true then nI 1 else nI 0
theorem bI_nar (b : Bool) : narrow .boolean (.int (bI b)) = .int (bI b) := by cases b <;> rfl
theorem bI_t {b : Bool} (h : b = true) : bI b = nI 1 := by rw [h]; rfl
theorem bI_f {b : Bool} (h : b = false) : bI b = nI 0 := by rw [h]; rfl
theorem bI_0 {b : Bool} : (bI b = 0) ↔ b = false := by
  cases b
  · exact ⟨fun _ => rfl, fun _ => by decide⟩
  · exact ⟨fun h => absurd h (by decide), fun h => absurd h (by decide)⟩
section
variable {G : XG} {M : XM} {R : Room} {F : XF} {cells slots : Nat} {ws : va_W} {pc : Nat} {lv : List (Nat × Value)} {st : List Value}
theorem XX.callSx {Mk : XM} {n idx d : Nat} {As rest : List Value} {r : Option Value} {ws2 : va_W} (hM : MM G Mk (xr d 0 0) As ws (RX r ws2)) (hk : xx_mt Mk n) (hst : Cond.static Mk.1 ∈ xw_g) (hlk : Cond.methodLink M.1.cls idx Mk.1 ∈ xw_g) (hn : As.length = n) (hd : decode M.2.1 pc = .ok (.invokestatic idx, 3)) (hR : d + 1 ≤ R.frames ∧ 8 + (Mk.2.2.1 + 11) + 40 * d ≤ R.locals) (hC : cells ≤ R.cells ∧ slots ≤ R.slots) (hw : (rest.map fun v => v.category).sum ≤ 8) (hst0 : st = As.reverse ++ rest)
    (k : XX G M R F cells slots ws2 (pc + 3) lv (r.toList ++ rest)) : XX G M R F cells slots ws pc lv st := by
  refine XX.callS hM hk hst hlk hn hd hR ⟨hC.1, hC.2⟩ hw hst0 (fun r1 ws1 h => ?_)
  obtain ⟨h1, h2⟩ := h
  rw [h1, h2]
  exact k
theorem XX.callVx {Mk : XM} {n idx ci q0 b d : Nat} {As rest fs : List Value} {q : vw_C} {r : Option Value} {ws2 : va_W} (hM : MM G Mk (xr d 0 0) (.ref b :: As) ws (RX r ws2)) (hk : xx_mt Mk n) (hi : Cond.instanceMethod Mk.1 ∈ xw_g ∧ Cond.selects Mk.1.cls Mk.1 Mk.1 ∈ xw_g) (hlk : Cond.methodLink M.1.cls idx Mk.1 ∈ xw_g ∨ ∃ host : String, Cond.methodLinkNest M.1.cls idx Mk.1 host ∈ xw_n) (hn : As.length = n) (hd : decode M.2.1 pc = .ok (.invokevirtual idx, 3)) (he : ws[q0]? = some (b, .inr (ci, fs))) (hc : xc_cl[ci]? = some q) (hq : q.1 = Mk.1.cls) (hR : d + 1 ≤ R.frames ∧ 8 + (Mk.2.2.1 + 11) + 40 * d ≤ R.locals) (hC : cells ≤ R.cells ∧ slots ≤ R.slots) (hw : (rest.map fun v => v.category).sum ≤ 8) (hst0 : st = As.reverse ++ .ref b :: rest)
    (k : XX G M R F cells slots ws2 (pc + 3) lv (r.toList ++ rest)) : XX G M R F cells slots ws pc lv st := by
  refine XX.callV hM hk hi hlk hn hd he hc hq hR ⟨hC.1, hC.2⟩ hw hst0 (fun r1 ws1 h => ?_)
  obtain ⟨h1, h2⟩ := h
  rw [h1, h2]
  exact k
theorem XX.bif_eq {b : Bool} {off : Int} {tgt : Nat} (hd : decode M.2.1 pc = .ok (.ifCond .eq off, 3)) (ht : (pc : Int) + off = (tgt : Int)) (kt : b = false → XX G M R F cells slots ws tgt lv st) (kf : b = true → XX G M R F cells slots ws (pc + 3) lv st) : XX G M R F cells slots ws pc lv (.int (bI b) :: st) :=
  XX.if_eq hd ht (fun h => kt (bI_0.mp h)) (fun h => kf (by cases b with | true => rfl | false => exact absurd (bI_0.mpr rfl) h))
theorem XX.bif_ne {b : Bool} {off : Int} {tgt : Nat} (hd : decode M.2.1 pc = .ok (.ifCond .ne off, 3)) (ht : (pc : Int) + off = (tgt : Int)) (kt : b = true → XX G M R F cells slots ws tgt lv st) (kf : b = false → XX G M R F cells slots ws (pc + 3) lv st) : XX G M R F cells slots ws pc lv (.int (bI b) :: st) :=
  XX.if_ne hd ht (fun h => kt (by cases b with | true => rfl | false => exact absurd (bI_0.mpr rfl) h)) (fun h => kf (bI_0.mp h))
theorem XR.bif_eq {b : Bool} {off : Int} {tgt : Nat} (hd : decode M.2.1 pc = .ok (.ifCond .eq off, 3)) (ht : (pc : Int) + off = (tgt : Int)) (kt : b = false → XR G M R F ws tgt lv st) (kf : b = true → XR G M R F ws (pc + 3) lv st) : XR G M R F ws pc lv (.int (bI b) :: st) :=
  XR.if_eq hd ht (fun h => kt (bI_0.mp h)) (fun h => kf (by cases b with | true => rfl | false => exact absurd (bI_0.mpr rfl) h))
theorem XR.bif_ne {b : Bool} {off : Int} {tgt : Nat} (hd : decode M.2.1 pc = .ok (.ifCond .ne off, 3)) (ht : (pc : Int) + off = (tgt : Int)) (kt : b = true → XR G M R F ws tgt lv st) (kf : b = false → XR G M R F ws (pc + 3) lv st) : XR G M R F ws pc lv (.int (bI b) :: st) :=
  XR.if_ne hd ht (fun h => kt (by cases b with | true => rfl | false => exact absurd (bI_0.mpr rfl) h)) (fun h => kf (bI_0.mp h))
end
end
section
/-! Methods that return or throw -/
def xx_qt (G : XG) (P : Option Value → va_W → Prop) (E : String → va_W → Prop) : Array Value → State → Outcome → State → Prop := fun _ st o t => va_F (xg_A G) st t ∧ ((∃ (r : Option Value) (ws : va_W), o = .returned r ∧ P r ws ∧ va_P G.1 xc_cl ws t.heap ∧ va_D (xg_A G) ws) ∨ ∃ (a : Nat) (X : String) (ws : va_W) (ce : Cell), o = .threw a ∧ E X ws ∧ va_P G.1 xc_cl ws t.heap ∧ va_D (xg_A G) ws ∧ t.heap[a]? = some ce ∧ ce.vm = .none ∧ t.vm.findClass X = some ce.cls)
def xx_fe (first : State) (t : State) (L : List Loc) (k n : Nat) : Prop := first.WarmedH t.vm ∧ first.sameButNew ({ t with vm := first.vm } : State) L k n
def xx_FT (G : XG) (P : Option Value → va_W → Prop) (E : String → va_W → Prop) (rm : Room) : XF := fun below args s t => ∃ o, t.status = .running ∧ Ended t below o ∧ xx_qt G P E args s o t ∧ ∃ L, xx_fe s t L rm.cells rm.slots ∧ ∀ q ∈ L, xg_A G q.base
def MT (G : XG) (M : XM) (rm : Room) (av : List Value) (ws : va_W) (P : Option Value → va_W → Prop) (E : String → va_W → Prop) : Prop :=
  MetFree G.2.2.2 M.1 (headSpec (xx_ws M) rm) (xx_pc G av ws) (fun _ _ _ _ _ => True) (fun a st o t => xx_qt G P E a st o t ∧ ∃ L, xx_fe st t L rm.cells rm.slots ∧ ∀ q ∈ L, xg_A G q.base)
theorem xx_FT_of {G : XG} {P : Option Value → va_W → Prop} {E : String → va_W → Prop} {rm : Room} {below : List Frame} {args : Array Value} {s t : State} (h : xx_F G P rm below args s t) : xx_FT G P E rm below args s t := by
  obtain ⟨o, h1, h2, ⟨h3, r, ws, h4⟩, L, ⟨h5, h6, h7⟩, h8⟩ := h
  exact ⟨o, h1, h2, ⟨h3, Or.inl ⟨r, ws, h4⟩⟩, L, ⟨h6, h7⟩, h8⟩
theorem MT.of {G : XG} {M : XM} {rm : Room} {av : List Value} {ws : va_W} {P : Option Value → va_W → Prop} {E : String → va_W → Prop} (hy : plainName M.1.cls = true) (hlen : (lg_sl av).length ≤ M.2.2.1)
    (h : XR G M rm (xx_FT G P E rm) ws 0 (lv_args 0 av) []) : MT G M rm av ws P E := by
  refine MetFree.of_bodyS (code := M.2.1) (maxLocals := M.2.2.1) (ret := M.2.2.2) hy ?_ ?_
  · intro args s m h hn
    obtain ⟨meth, c, h1, h2, h3, h4, h5, h6, -, -⟩ := Cond.code_spec hn (atoms_spec (ws := xx_ws M) h _ List.mem_cons_self)
    exact ⟨meth, c, h1, h2, h3, h4, h5, h6⟩
  · intro p e s m args below meth c s₁ B hml hv _
    have hh0 : s₁.heap = s.heap := by rw [B.state]; rfl
    obtain ⟨rfl, hbase, hen, hP, hD⟩ := hv
    have hl := lv_entry av (n := M.2.2.1) hlen
    have k := h p e s m av.toArray below meth c _ ⟨B.exec, B.bytes, hml, B.returns, B.notSynchronized, findClass_of_methodNamed B.named, Or.inl ⟨(name_of_methodNamed B.named B.method).1, B.named⟩, hbase, hen⟩ hP hD hl
    rw [← lg_entry_eq] at k
    obtain ⟨t, a1, o, b1, b2, b3⟩ := k s₁ hh0 (Stand.of_body B)
    exact ⟨t, o, a1, b1, b2, b3⟩
section
variable {G : XG} {M : XM} {R : Room} {F F2 : XF} {cells slots : Nat} {ws : va_W} {pc : Nat} {lv : List (Nat × Value)} {st : List Value}
theorem XX.mono (h : ∀ below args s t, F below args s t → F2 below args s t) (k : XX G M R F cells slots ws pc lv st) : XX G M R F2 cells slots ws pc lv st := by
  intro p e s m args below meth c H locs ls hf hP hD hS hl T hT X
  obtain ⟨t, a, b⟩ := k p e s m args below meth c H locs ls hf hP hD hS hl T hT X
  exact ⟨t, a, h _ _ _ _ b⟩
/-- from here on the method returns -/
theorem XX.ft {P : Option Value → va_W → Prop} {E : String → va_W → Prop} {rm : Room} (k : XX G M R (xx_F G P rm) cells slots ws pc lv st) : XX G M R (xx_FT G P E rm) cells slots ws pc lv st := XX.mono (fun _ _ _ _ h => xx_FT_of h) k
end
theorem xx_same {s U : State} {k n : Nat} (h : s.sameButNew ({ U with vm := s.vm } : State) [] k n) : s.heap.size ≤ U.heap.size ∧ ∀ q : Nat, q < s.heap.size → U.heap[q]? = s.heap[q]? := by
  refine ⟨h.2.1, fun q hq => ?_⟩
  have e1 : s.heap[q]? = some s.heap[q] := Array.getElem?_eq_getElem hq
  obtain ⟨c2, h1, h2, h3, h4⟩ := h.2.2.2.2.2 q _ e1
  have h5 : c2.slots = s.heap[q].slots := Array.ext_getElem? (fun i => h4 i (by simp))
  have h6 : U.heap[q]? = some c2 := h1
  rw [h6, e1, h2, h5]
theorem xx_isRef {C n d : String} {v : Value} {A : Nat → Prop} {s : State} {args : Array Value} (h : va_Z C n d v A s s.heap) (hv : v = .null ∨ ∃ t, v = .ref t) : (Cond.isRef (.static C n d)).before args s = true := by
  obtain ⟨cf, kf, fi, f, a, cell, h1, h2, h3, h4, h5, h6, h7, h8⟩ := h
  rcases hv with rfl | ⟨t, rfl⟩
  · simp [Cond.before, Cond.holds, Cond.value, Term.eval, State.fieldNamed?, h1, h2, h4, h5, h6, h7]
  · simp [Cond.before, Cond.holds, Cond.value, Term.eval, State.fieldNamed?, h1, h2, h4, h5, h6, h7]
section
variable {G : XG} {M : XM} {R : Room} {ws : va_W} {pc : Nat} {lv : List (Nat × Value)} {st : List Value}
set_option maxHeartbeats 1000000 in
/-- new X(text), athrow: the method ends with an X -/
theorem XR.throw {idx ic sx : Nat} {X tx : String} {names : List String} {rm : Room} {P : Option Value → va_W → Prop} {E : String → va_W → Prop}
    (h1 : Cond.classLink M.1.cls idx X ∈ xw_g) (h2 : Cond.instantiable X 6 ∈ xw_g) (h3 : Cond.initialized X ∈ xw_g) (h4 : (M.1.cls, sx, tx) ∈ xw_s)
    (h5 : ∀ w ∈ Bundle.ownAtoms M.1.cls ic X names, w ∈ xw_g ∨ w ∈ xw_n ∨ w = .isRef (.static "java/lang/Throwable" "UNASSIGNED_STACK" "[Ljava/lang/StackTraceElement;") ∨ w = .isRef (.static "java/lang/Throwable" "SUPPRESSED_SENTINEL" "Ljava/util/List;"))
    (h6 : Cond.code M.1 M.2.1 M.2.2.1 M.2.2.2 ∈ xw_g) (hnl : M.1.name ≠ "law") (hX : Bundle.fit X = true) (hN : ∀ n ∈ names, Bundle.fit n = true) (htr : ∀ e : Env, G.2.2.2.admits e → e.platform.stackTraces = false)
    (d0 : decode M.2.1 pc = .ok (.new idx, 3)) (d3 : decode M.2.1 (pc + 3) = .ok (.dup, 1)) (d4 : decode M.2.1 (pc + 3 + 1) = .ok (.ldc sx, 2)) (d6 : decode M.2.1 (pc + 3 + 1 + 2) = .ok (.invokespecial ic, 3)) (d9 : decode M.2.1 (pc + 3 + 1 + 2 + 3) = .ok (.athrow, 1))
    (hR : names.length + 3 < R.frames) (hRl : (st.map fun v => v.category).sum + 1 + (13 * (names.length + 1) + 42) ≤ R.locals) (hc : 1 ≤ R.cells ∧ 6 ≤ R.slots) (hrm : 1 ≤ rm.cells ∧ 6 ≤ rm.slots) (hE : E X ws) :
    XR G M R (xx_FT G P E rm) ws pc lv st := by
  intro p e s m args below meth c ls hf hP hD hl
  have hen := hf.2.2.2.2.2.2.2.2
  have hown := hf.2.2.2.2.2.1
  refine W.newc hf.1 hf.2.1 hown (hen.1 _ h1 args) (hen.1 _ h2 args) (hen.1 _ h3 args) (g := F0 m pc ls st) rfl d0 (by omega) (by omega) (fun cC kC e1 e2 e3 e4 => ?_)
  obtain ⟨a, hs⟩ := hen.2.1.2.1 _ h4
  refine W.eq (g2 := F0 m (pc + 3) ls (.ref s.heap.size :: st)) rfl ?_
  refine lv_dup hf.1 hf.2.1 d3 rfl ?_
  refine va_ldcS hf.1 hf.2.1 hown hs d4 ?_
  intro T hT X0
  have hnm : s.methodNamed? M.1 = some m := by
    rcases hf.2.2.2.2.2.2.1 with h | h
    · exact h.2
    · exact absurd h hnl
  have hex : c.exceptionTable.toList = [] := by
    obtain ⟨meth2, c2, q1, q2, -, -, -, -, q3, -⟩ := Cond.code_spec hnm (hen.1 _ h6 args)
    cases Option.some.inj (q1.symm.trans X0.method)
    cases Option.some.inj (q2.symm.trans X0.code)
    have q4 : c.exceptionTable = #[] := by simpa using q3
    rw [q4]
  have hat : ∀ w ∈ Bundle.ownAtoms M.1.cls ic X names, w.before args s = true := by
    intro w hw
    rcases h5 w hw with h | h | h | h
    · exact hen.1 w h args
    · have h7 := hen.2.1.1 w h
      have h8 := (List.mem_filter.mp h).2
      refine va_Nw.use ?_ h7
      cases w <;> first | (simp [xw_isN] at h8; done) | rfl
    · rw [h]
      rcases hen.2.1.2.2.1 with h9 | ⟨t, h9⟩
      · exact xx_isRef h9 (Or.inl rfl)
      · exact xx_isRef h9 (Or.inr ⟨t, rfl⟩)
    · rw [h]
      rcases hen.2.1.2.2.2 with h9 | ⟨t, h9⟩
      · exact xx_isRef h9 (Or.inl rfl)
      · exact xx_isRef h9 (Or.inr ⟨t, rfl⟩)
  obtain ⟨U, s1, s2, s3, s4, s5, ce, s6, s7⟩ := X0.ctorThrowS hf.1 (htr e X0.admits) hown hX hN hat (fun x hx => by cases hx) e1 e2 (a := s.heap.size) (by rw [hT]; simp) (Nat.le_refl _) (msg := .ref a) rfl
    (g := F0 m (pc + 3 + 1 + 2) ls (.ref a :: .ref s.heap.size :: .ref s.heap.size :: st)) rfl (by rw [hf.2.2.1]; exact hl.1) rfl rfl (rest := st) rfl (by rw [hf.2.1]; exact d6) (by rw [hf.2.1]; exact d9) (by rw [hex]; intro x hx; cases hx) hR
    (by show 2 * 0 + ((Value.ref s.heap.size :: st).map fun v => v.category).sum + _ ≤ _; simp only [List.map_cons, List.sum_cons]; have : (Value.ref s.heap.size).category = 1 := rfl; omega) hf.2.2.2.2.1
  obtain ⟨z1, z2⟩ := xx_same s5
  refine ⟨U, s1, .threw s.heap.size, s2, s3, ⟨⟨z1, fun q h _ => z2 q h⟩, Or.inr ⟨_, X, ws, ce, rfl, hE, hP.kept (fun k q hq => z2 _ (hP k q hq).lt), hD, s6, s7.vm, ?_⟩⟩, [], ⟨s4, s5.weaken (fun _ h _ => h) hrm.1 hrm.2⟩, fun q h => by cases h⟩
  rw [s4.alike.findClass]
  exact s7.cls
end
end
section
/-! Scanning: over a < to while p -/
def sk_n (p : Nat → Bool) : Nat → Nat → Nat
  | 0, a => a
  | n + 1, a => if p a = true then sk_n p n (a + 1) else a
def sk (p : Nat → Bool) (to a : Nat) : Nat := sk_n p (to - a) a
theorem sk_step {p : Nat → Bool} {to a : Nat} (h : a < to) (hp : p a = true) : sk p to a = sk p to (a + 1) := by
  unfold sk
  rw [show to - a = (to - (a + 1)) + 1 by omega, sk_n, if_pos hp]
theorem sk_stop {p : Nat → Bool} {to a : Nat} (h : a < to → p a = false) : sk p to a = a := by
  unfold sk
  by_cases h1 : a < to
  · rw [show to - a = (to - (a + 1)) + 1 by omega, sk_n, if_neg (by rw [h h1]; decide)]
  · rw [show to - a = 0 by omega, sk_n]
theorem sk_ge (p : Nat → Bool) (to a : Nat) : a ≤ sk p to a := by
  unfold sk
  generalize to - a = n
  induction n generalizing a with
  | zero => exact Nat.le_refl _
  | succ n ih => rw [sk_n]; split; exact Nat.le_trans (by omega) (ih (a + 1)); exact Nat.le_refl _
theorem sk_le {p : Nat → Bool} {to a : Nat} (h : a ≤ to) : sk p to a ≤ to := by
  unfold sk
  have : ∀ n a, a + n ≤ to → sk_n p n a ≤ to := by
    intro n
    induction n with
    | zero => intro a h; exact h
    | succ n ih => intro a h; rw [sk_n]; split; exact ih (a + 1) (by omega); omega
  exact this _ _ (by omega)
theorem sk_end {p : Nat → Bool} {to a : Nat} (h : sk p to a < to) : p (sk p to a) = false := by
  unfold sk at *
  have : ∀ n a, a + n = to ∨ n = 0 → sk_n p n a < to → a + n ≤ to → p (sk_n p n a) = false ∨ n = 0 := by
    intro n
    induction n with
    | zero => intro a h h2 h3; exact Or.inr rfl
    | succ n ih =>
      intro a h h2 h3
      rw [sk_n] at h2 ⊢
      by_cases hp : p a = true
      · rw [if_pos hp] at h2 ⊢
        have h4 := ih (a + 1) (by omega) h2 (by omega)
        rcases h4 with h4 | h4
        · exact Or.inl h4
        · subst h4; rw [sk_n] at h2; omega
      · rw [if_neg hp]; left; simpa using hp
  by_cases hz : to - a = 0
  · rw [hz, sk_n] at h; omega
  · rcases this (to - a) a (by omega) h (by omega) with h4 | h4
    · exact h4
    · exact absurd h4 hz
theorem sk_cong {p p2 : Nat → Bool} {to a : Nat} (h : ∀ i, a ≤ i → i < to → p i = p2 i) : sk p to a = sk p2 to a := by
  unfold sk
  have : ∀ n a, a + n ≤ to ∨ n = 0 → (∀ i, a ≤ i → i < to → p i = p2 i) → sk_n p n a = sk_n p2 n a := by
    intro n
    induction n with
    | zero => intro a _ _; rfl
    | succ n ih =>
      intro a h1 h2
      rw [sk_n, sk_n, h2 a (Nat.le_refl _) (by omega)]
      split
      · exact ih (a + 1) (by omega) (fun i h3 h4 => h2 i (by omega) h4)
      · rfl
  exact this _ _ (by omega) h
def pb_dig (B : Nat → Int32) (i : Nat) : Bool := !decide (B i < nI 48) && !decide (nI 57 < B i)
def pb_blk (B : Nat → Int32) (i : Nat) : Bool := decide (B i = nI 32) || decide (B i = nI 9)
def pb_sep (B : Nat → Int32) (sep : Int32) (i : Nat) : Bool := !decide (B i &&& nI 255 = sep)
theorem sk_le2 {p : Nat → Bool} {to a m : Nat} (h1 : a ≤ m) (h2 : to ≤ m) : sk p to a ≤ m := by
  by_cases h : a ≤ to
  · exact Nat.le_trans (sk_le h) h2
  · rw [sk_stop (fun z => absurd z (by omega))]; exact h1
theorem upd_upd (f : Nat → Int32) (k : Nat) (a b : Int32) : upd (upd f k a) k b = upd f k b := by
  funext j
  unfold upd
  by_cases h : j = k
  · rw [if_pos h, if_pos h]
  · rw [if_neg h, if_neg h, if_neg h]
end
section
/-! Comparisons that are orders -/
def gc {α : Type} (c : α → α → Ordering) : Prop := (∀ a b, c b a = (c a b).swap) ∧ ∀ a b d, c a b ≠ .gt → c b d ≠ .gt → c a d ≠ .gt
theorem gc.rf {α : Type} {c : α → α → Ordering} (h : gc c) (a : α) : c a a = .eq := by
  have h1 := h.1 a a
  cases h2 : c a a with
  | eq => rfl
  | lt => rw [h2] at h1; cases h1
  | gt => rw [h2] at h1; cases h1
theorem gc.eqs {α : Type} {c : α → α → Ordering} (h : gc c) {a b : α} (h1 : c a b = .eq) : c b a = .eq := by rw [h.1 a b, h1]; rfl
theorem gc.eqt {α : Type} {c : α → α → Ordering} (h : gc c) {a b d : α} (h1 : c a b = .eq) (h2 : c b d = .eq) : c a d = .eq := by
  have h3 := h.2 a b d (by rw [h1]; decide) (by rw [h2]; decide)
  have h4 := h.2 d b a (by rw [h.eqs h2]; decide) (by rw [h.eqs h1]; decide)
  have h5 := h.1 a d
  cases h6 : c a d with
  | eq => exact Eq.refl _
  | lt => rw [h6] at h5; exact absurd h5 h4
  | gt => exact absurd h6 h3
theorem gc.ltle {α : Type} {c : α → α → Ordering} (h : gc c) {a b d : α} (h1 : c a b = .lt) (h2 : c b d ≠ .gt) : c a d = .lt := by
  have h3 := h.2 a b d (by rw [h1]; decide) h2
  cases h6 : c a d with
  | lt => exact Eq.refl _
  | gt => exact absurd h6 h3
  | eq =>
    have h7 := h.2 b d a h2 (by rw [h.eqs h6]; decide)
    rw [h.1 a b, h1] at h7
    exact absurd (Eq.refl _) h7
theorem gc.lelt {α : Type} {c : α → α → Ordering} (h : gc c) {a b d : α} (h1 : c a b ≠ .gt) (h2 : c b d = .lt) : c a d = .lt := by
  have h3 := h.2 a b d h1 (by rw [h2]; decide)
  cases h6 : c a d with
  | lt => exact Eq.refl _
  | gt => exact absurd h6 h3
  | eq =>
    have h7 := h.2 d a b (by rw [h.eqs h6]; decide) h1
    rw [h.1 b d, h2] at h7
    exact absurd (Eq.refl _) h7
theorem gc.sw {α : Type} {c : α → α → Ordering} (h : gc c) : gc (fun a b => (c a b).swap) := by
  refine ⟨fun a b => by show (c b a).swap = (c a b).swap.swap; rw [h.1 a b], fun a b d h1 h2 => ?_⟩
  show (c a d).swap ≠ .gt
  have h1 : (c a b).swap ≠ .gt := h1
  have h2 : (c b d).swap ≠ .gt := h2
  rw [← h.1] at h1 h2 ⊢
  exact h.2 d b a h2 h1
theorem gc.map {α β : Type} {c : β → β → Ordering} (h : gc c) (f : α → β) : gc (fun a b => c (f a) (f b)) := ⟨fun a b => h.1 _ _, fun a b d h1 h2 => h.2 _ _ _ h1 h2⟩
/-- one after the other; what comes second may go by what the first has the same -/
theorem gc.dep {α : Type} {c1 c2 c3 : α → α → Ordering} {p : α → Bool} (h1 : gc c1) (h2 : gc c2) (h3 : gc c3) (hp : ∀ a b, c1 a b = .eq → p a = p b) : gc (fun a b => (c1 a b).then (if p a = true then c2 a b else c3 a b)) := by
  have sw : ∀ a b, c1 a b = .eq → (if p b = true then c2 b a else c3 b a) = (if p a = true then c2 a b else c3 a b).swap := by
    intro a b h
    rw [hp a b h]
    split
    · exact h2.1 a b
    · exact h3.1 a b
  have tr : ∀ a b d, c1 a b = .eq → c1 b d = .eq → (if p a = true then c2 a b else c3 a b) ≠ .gt → (if p b = true then c2 b d else c3 b d) ≠ .gt → (if p a = true then c2 a d else c3 a d) ≠ .gt := by
    intro a b d e1 e2
    rw [← hp a b e1]
    split
    · exact h2.2 a b d
    · exact h3.2 a b d
  refine ⟨fun a b => ?_, fun a b d k1 k2 => ?_⟩
  · show (c1 b a).then _ = ((c1 a b).then _).swap
    cases h : c1 a b with
    | lt => rw [h1.1 a b, h]; rfl
    | gt => rw [h1.1 a b, h]; rfl
    | eq => rw [h1.eqs h]; exact sw a b h
  · show (c1 a d).then _ ≠ .gt
    have k1 : (c1 a b).then _ ≠ .gt := k1
    have k2 : (c1 b d).then _ ≠ .gt := k2
    cases e1 : c1 a b with
    | gt => rw [e1] at k1; exact absurd (Eq.refl _) k1
    | lt =>
      have : c1 b d ≠ .gt := fun z => by rw [z] at k2; exact k2 (Eq.refl _)
      rw [h1.ltle e1 this]; intro z; cases z
    | eq =>
      cases e2 : c1 b d with
      | gt => rw [e2] at k2; exact absurd (Eq.refl _) k2
      | lt => rw [h1.lelt (by rw [e1]; decide) e2]; intro z; cases z
      | eq =>
        rw [e1] at k1
        rw [e2] at k2
        rw [h1.eqt e1 e2]
        exact tr a b d e1 e2 k1 k2
theorem gc.thn {α : Type} {c1 c2 : α → α → Ordering} (h1 : gc c1) (h2 : gc c2) : gc (fun a b => (c1 a b).then (c2 a b)) := by
  have h := gc.dep (p := fun _ => true) h1 h2 h2 (fun _ _ _ => rfl)
  simpa using h
theorem gc.const {α : Type} : gc (fun _ _ : α => Ordering.eq) := ⟨fun _ _ => rfl, fun _ _ _ _ _ h => by cases h⟩
/-- numbers -/
def oi (x y : Int32) : Ordering := if x = y then .eq else if x < y then .lt else .gt
theorem gc_oi : gc oi := by
  have tri : ∀ x y : Int32, ¬ x = y → ¬ x < y → y < x := by
    intro x y h1 h2
    rw [Int32.lt_iff_toInt_lt] at h2 ⊢
    have : x.toInt ≠ y.toInt := fun z => h1 (Int32.toInt_inj.mp z)
    omega
  refine ⟨fun x y => ?_, fun x y z h1 h2 => ?_⟩
  · unfold oi
    by_cases h : x = y
    · subst h; simp
    · rw [if_neg h, if_neg (fun z => h z.symm)]
      by_cases h2 : x < y
      · have : ¬ y < x := by rw [Int32.lt_iff_toInt_lt] at h2 ⊢; omega
        rw [if_pos h2, if_neg this]; rfl
      · rw [if_neg h2, if_pos (tri x y h h2)]; rfl
  · unfold oi at *
    by_cases e1 : x = y
    · subst e1; exact h2
    · by_cases e2 : y = z
      · subst e2; exact h1
      · rw [if_neg e1] at h1
        rw [if_neg e2] at h2
        have a1 : x < y := by
          by_cases h : x < y
          · exact h
          · rw [if_neg h] at h1; exact absurd rfl h1
        have a2 : y < z := by
          by_cases h : y < z
          · exact h
          · rw [if_neg h] at h2; exact absurd rfl h2
        have a3 : x < z := by rw [Int32.lt_iff_toInt_lt] at *; omega
        have a4 : ¬ x = z := fun q => by rw [q, Int32.lt_iff_toInt_lt] at a3; omega
        rw [if_neg a4, if_pos a3]; decide
def on (x y : Nat) : Ordering := if x = y then .eq else if x < y then .lt else .gt
theorem gc_on : gc on := by
  refine ⟨fun x y => ?_, fun x y z h1 h2 => ?_⟩
  · unfold on
    by_cases h : x = y
    · subst h; simp
    · rw [if_neg h, if_neg (fun z => h z.symm)]
      by_cases h2 : x < y
      · rw [if_pos h2, if_neg (by omega)]; rfl
      · rw [if_neg h2, if_pos (by omega)]; rfl
  · unfold on at *
    have a1 : x ≤ y := by
      by_cases e : x = y
      · omega
      · by_cases h : x < y
        · omega
        · rw [if_neg e, if_neg h] at h1; exact absurd rfl h1
    have a2 : y ≤ z := by
      by_cases e : y = z
      · omega
      · by_cases h : y < z
        · omega
        · rw [if_neg e, if_neg h] at h2; exact absurd rfl h2
    by_cases e : x = z
    · rw [if_pos e]; decide
    · rw [if_neg e, if_pos (by omega)]; decide
/-- rows of numbers, from the left; the shorter first -/
def lx : List Int32 → List Int32 → Ordering
  | [], [] => .eq
  | [], _ :: _ => .lt
  | _ :: _, [] => .gt
  | x :: xs, y :: ys => if x = y then lx xs ys else if x < y then .lt else .gt
theorem lx_cons (x y : Int32) (xs ys : List Int32) : lx (x :: xs) (y :: ys) = (oi x y).then (lx xs ys) := by
  rw [lx, oi]
  by_cases h : x = y
  · rw [if_pos h, if_pos h]; rfl
  · rw [if_neg h, if_neg h]
    by_cases h2 : x < y
    · rw [if_pos h2]; rfl
    · rw [if_neg h2]; rfl
theorem gc_lx : gc lx := by
  have sw : ∀ a b, lx b a = (lx a b).swap := by
    intro a
    induction a with
    | nil => intro b; cases b <;> rfl
    | cons x xs ih =>
      intro b
      cases b with
      | nil => rfl
      | cons y ys =>
        rw [lx_cons, lx_cons, gc_oi.1 x y]
        cases h : oi x y with
        | lt => rfl
        | gt => rfl
        | eq => exact ih ys
  refine ⟨sw, ?_⟩
  intro a
  induction a with
  | nil => intro b d _ _; cases d <;> (intro h; cases h)
  | cons x xs ih =>
    intro b d h1 h2
    cases b with
    | nil => exact absurd rfl h1
    | cons y ys =>
      cases d with
      | nil => exact absurd rfl h2
      | cons z zs =>
        rw [lx_cons] at h1 h2 ⊢
        cases e1 : oi x y with
        | gt => rw [e1] at h1; exact absurd rfl h1
        | lt =>
          have : oi y z ≠ .gt := fun q => by rw [q] at h2; exact h2 rfl
          rw [gc_oi.ltle e1 this]; intro q; cases q
        | eq =>
          cases e2 : oi y z with
          | gt => rw [e2] at h2; exact absurd rfl h2
          | lt => rw [gc_oi.lelt (by rw [e1]; decide) e2]; intro q; cases q
          | eq =>
            rw [e1] at h1
            rw [e2] at h2
            rw [gc_oi.eqt e1 e2]
            exact ih ys zs h1 h2
/-- an order as the machine's answer -/
def oI : Ordering → Int32
  | .lt => -1
  | .eq => nI 0
  | .gt => nI 1
theorem oI_neg (o : Ordering) : -(oI o) = oI o.swap := by cases o <;> decide
theorem oI_0 (o : Ordering) : (oI o = 0) ↔ o = .eq := by cases o <;> decide
theorem oI_le (o : Ordering) : (oI o ≤ 0) ↔ o ≠ .gt := by cases o <;> decide
theorem oI_gt (o : Ordering) : (0 < oI o) ↔ o = .gt := by cases o <;> decide
theorem oI_lt (o : Ordering) : (oI o < 0) ↔ o = .lt := by cases o <;> decide
end
section
/-! Fields, keys' places, numerals: what the methods compute, word for word -/
def fl_stop (B : Nat → Int32) (sep : Int32) (to a : Nat) : Nat := if sep = -1 then sk (fun i => !pb_blk B i) to (sk (pb_blk B) to a) else sk (pb_sep B sep) to a
theorem fl_stop_ge (B : Nat → Int32) (sep : Int32) (to a : Nat) : a ≤ fl_stop B sep to a := by
  unfold fl_stop
  split
  · exact Nat.le_trans (sk_ge _ _ _) (sk_ge _ _ _)
  · exact sk_ge _ _ _
theorem fl_stop_le {B : Nat → Int32} {sep : Int32} {to a : Nat} (h : a ≤ to) : fl_stop B sep to a ≤ to := by
  unfold fl_stop
  split
  · exact sk_le (sk_le h)
  · exact sk_le h
/-- the start of the field k further -/
def fl_start (B : Nat → Int32) (sep : Int32) (to : Nat) : Nat → Nat → Option Nat
  | 0, a => some a
  | k + 1, a => if fl_stop B sep to a = to then none else fl_start B sep to k (if sep = -1 then fl_stop B sep to a else fl_stop B sep to a + 1)
theorem fl_start_le {B : Nat → Int32} {sep : Int32} {to : Nat} : ∀ {k a b : Nat}, a ≤ to → fl_start B sep to k a = some b → b ≤ to := by
  intro k
  induction k with
  | zero => intro a b h h2; rw [fl_start] at h2; cases h2; exact h
  | succ k ih =>
    intro a b h h2
    rw [fl_start] at h2
    have h3 := fl_stop_le (B := B) (sep := sep) h
    split at h2
    · cases h2
    · split at h2
      · exact ih h3 h2
      · exact ih (by omega) h2
def oN : Option Nat → Int32
  | none => -1
  | some a => nI a
def pb_pass (B : Nat → Int32) (sep : Int32) (i : Nat) : Bool := pb_blk B i && !decide (B i &&& nI 255 = sep)
def ky_begin (B : Nat → Int32) (sep fl : Int32) (ff fc st sp : Nat) : Nat :=
  match fl_start B sep sp (ff - 1) st with
  | none => sp
  | some a => min sp ((if fl &&& nI 1 = 0 then a else sk (pb_pass B sep) sp a) + fc - 1)
def ky_end (B : Nat → Int32) (sep fl : Int32) (lf lc st sp : Nat) : Nat :=
  if lf = 0 then sp else
  match fl_start B sep sp (lf - 1) st with
  | none => sp
  | some a => if lc = 0 then fl_stop B sep sp a else min sp ((if fl &&& nI 64 = 0 then a else sk (pb_pass B sep) sp a) + lc)
/-- bytes as they are compared -/
def wg_small (v : Int32) : Bool := !decide (v < nI 97) && !decide (nI 122 < v)
def wg_cap (v : Int32) : Bool := !decide (v < nI 65) && !decide (nI 90 < v)
def wg_dig (v : Int32) : Bool := !decide (v < nI 48) && !decide (nI 57 < v)
def wg_blank (v : Int32) : Bool := decide (v = nI 32) || decide (v = nI 9)
def wg_t (v fl : Int32) : Int32 :=
  if !decide (fl &&& nI 8 = 0) && (decide (v < nI 32) || decide (nI 126 < v)) then -2
  else if !decide (fl &&& nI 2 = 0) && (!wg_blank v && !wg_small v && !wg_cap v && !wg_dig v) then -2
  else if wg_small v && !decide (fl &&& nI 4 = 0) then v - nI 97 + nI 65 else v
def wl (g : Nat → Int32) : Nat → Nat → List Int32
  | 0, _ => []
  | n + 1, a => if g a = -2 then wl g n (a + 1) else g a :: wl g n (a + 1)
def wgB (B : Nat → Int32) (fl : Int32) (i : Nat) : Int32 := wg_t (B i &&& nI 255) fl
/-- the bytes from a to e as they are compared -/
def wb (B : Nat → Int32) (fl : Int32) (a e : Nat) : List Int32 := wl (wgB B fl) (e - a) a
theorem wb_nil {B : Nat → Int32} {fl : Int32} {a e : Nat} (h : e ≤ a) : wb B fl a e = [] := by
  unfold wb; rw [show e - a = 0 by omega]; rfl
theorem wb_skip {B : Nat → Int32} {fl : Int32} {a e : Nat} (h : a < e) (h2 : wgB B fl a = -2) : wb B fl a e = wb B fl (a + 1) e := by
  unfold wb; rw [show e - a = (e - (a + 1)) + 1 by omega, wl, if_pos h2]
theorem wb_cons {B : Nat → Int32} {fl : Int32} {a e : Nat} (h : a < e) (h2 : ¬ wgB B fl a = -2) : wb B fl a e = wgB B fl a :: wb B fl (a + 1) e := by
  unfold wb; rw [show e - a = (e - (a + 1)) + 1 by omega, wl, if_neg h2]
theorem b255 (x : Int32) : ∃ k : Nat, k < 256 ∧ x &&& nI 255 = nI k := ⟨x.toBitVec.toNat % 2 ^ 8, Nat.mod_lt _ (by decide), pk_and x 8 (by decide)⟩
theorem wg_nn (x fl : Int32) : wg_t (x &&& nI 255) fl = -2 ∨ ∃ k : Nat, k < 256 ∧ wg_t (x &&& nI 255) fl = nI k := by
  obtain ⟨k, hk, e⟩ := b255 x
  rw [e]
  unfold wg_t
  split
  · exact Or.inl rfl
  · split
    · exact Or.inl rfl
    · split
      · rename_i h
        right
        have h1 : ¬ nI k < nI 97 := by
          intro z
          simp [wg_small, z] at h
        rw [xn_lt (by omega) (by decide)] at h1
        exact ⟨k - 97 + 65, by omega, by rw [pk_sub (by omega), nI_add]⟩
      · exact Or.inr ⟨k, hk, rfl⟩
/-- numerals -/
def pb_zero (B : Nat → Int32) (i : Nat) : Bool := decide (B i &&& nI 255 = nI 48)
def nm_min (B : Nat → Int32) (to a : Nat) : Bool := decide (sk (pb_blk B) to a < to) && decide (B (sk (pb_blk B) to a) &&& nI 255 = nI 45)
/-- where the number's own digits begin, outer zeros left out -/
def nm_whole (B : Nat → Int32) (to a : Nat) : Nat := sk (pb_zero B) to (if nm_min B to a = true then sk (pb_blk B) to a + 1 else sk (pb_blk B) to a)
def nm_wstop (B : Nat → Int32) (to a : Nat) : Nat := sk (pb_dig B) to (nm_whole B to a)
def nm_point (B : Nat → Int32) (to a : Nat) : Bool := decide (nm_wstop B to a < to) && decide (B (nm_wstop B to a) &&& nI 255 = nI 46)
def nm_frac (B : Nat → Int32) (to a : Nat) : Nat := if nm_point B to a = true then nm_wstop B to a + 1 else nm_wstop B to a
def nm_fend (B : Nat → Int32) (to a : Nat) : Nat := if nm_point B to a = true then sk (pb_dig B) to (nm_frac B to a) else nm_frac B to a
def nm_strip (B : Nat → Int32) (lo : Nat) : Nat → Nat
  | 0 => 0
  | e + 1 => if lo < e + 1 ∧ pb_zero B e = true then nm_strip B lo e else e + 1
def nm_fstop (B : Nat → Int32) (to a : Nat) : Nat := nm_strip B (nm_frac B to a) (nm_fend B to a)
def nm_zero (B : Nat → Int32) (to a : Nat) : Bool := decide (nm_whole B to a = nm_wstop B to a) && decide (nm_frac B to a = nm_fstop B to a)
def nm_sign (B : Nat → Int32) (to a : Nat) : Int32 := if nm_zero B to a = true then nI 0 else if nm_min B to a = true then -1 else nI 1
/-! one step of comparing bytes -/
theorem cb_skip {i e : Nat} {w : Int32} (h : (if i < e then w else -1) = -2) : i < e ∧ w = -2 := by
  by_cases h1 : i < e
  · rw [if_pos h1] at h; exact ⟨h1, h⟩
  · rw [if_neg h1] at h; exact absurd h (by decide)
theorem cb_wn {B : Nat → Int32} {fl : Int32} {i e : Nat} (h : ¬ (if i < e then wgB B fl i else -1) = -2) (h1 : i < e) : ∃ k : Nat, k < 256 ∧ wgB B fl i = nI k := by
  rw [if_pos h1] at h
  rcases wg_nn (B i) fl with h2 | h2
  · exact absurd h2 h
  · exact h2
theorem cb_m1 {k : Nat} (h : k < 256) : ¬ nI k = -1 ∧ ¬ nI k < -1 ∧ (-1 : Int32) < nI k := by
  have e : (-1 : Int32).toInt = -1 := by decide
  refine ⟨fun z => ?_, fun z => ?_, ?_⟩
  · have := congrArg Int32.toInt z; rw [e, nI_toInt (by omega)] at this; omega
  · rw [Int32.lt_iff_toInt_lt, e, nI_toInt (by omega)] at z; omega
  · rw [Int32.lt_iff_toInt_lt, e, nI_toInt (by omega)]; omega
theorem cb_eq {B : Nat → Int32} {fl : Int32} {i a j b : Nat} (ho : i < a ∨ j < b) (h1 : ¬ (if i < a then wgB B fl i else -1) = -2) (h2 : ¬ (if j < b then wgB B fl j else -1) = -2) (h3 : (if i < a then wgB B fl i else -1) = (if j < b then wgB B fl j else -1)) :
    i < a ∧ j < b ∧ lx (wb B fl i a) (wb B fl j b) = lx (wb B fl (i + 1) a) (wb B fl (j + 1) b) := by
  by_cases hi : i < a
  · obtain ⟨k, hk, ek⟩ := cb_wn h1 hi
    by_cases hj : j < b
    · rw [if_pos hi] at h1 h3
      rw [if_pos hj] at h2 h3
      refine ⟨hi, hj, ?_⟩
      rw [wb_cons hi h1, wb_cons hj h2, lx_cons, h3]
      unfold oi
      rw [if_pos rfl]; rfl
    · rw [if_pos hi, if_neg hj, ek] at h3
      exact absurd h3 (cb_m1 hk).1
  · have hj : j < b := by omega
    obtain ⟨k, hk, ek⟩ := cb_wn h2 hj
    rw [if_neg hi, if_pos hj, ek] at h3
    exact absurd h3.symm (cb_m1 hk).1
theorem cb_ne {B : Nat → Int32} {fl : Int32} {i a j b : Nat} (h1 : ¬ (if i < a then wgB B fl i else -1) = -2) (h2 : ¬ (if j < b then wgB B fl j else -1) = -2) (h3 : ¬ (if i < a then wgB B fl i else -1) = (if j < b then wgB B fl j else -1)) :
    lx (wb B fl i a) (wb B fl j b) = oi (if i < a then wgB B fl i else -1) (if j < b then wgB B fl j else -1) := by
  by_cases hi : i < a
  · obtain ⟨k, hk, ek⟩ := cb_wn h1 hi
    by_cases hj : j < b
    · rw [if_pos hi] at h1 h3 ⊢
      rw [if_pos hj] at h2 h3 ⊢
      rw [wb_cons hi h1, wb_cons hj h2, lx_cons]
      unfold oi
      rw [if_neg h3]
      by_cases h4 : wgB B fl i < wgB B fl j
      · rw [if_pos h4]; rfl
      · rw [if_neg h4]; rfl
    · rw [if_pos hi] at h1 ⊢
      rw [if_neg hj, wb_cons hi h1, wb_nil (a := j) (e := b) (by omega), ek]
      unfold oi
      rw [if_neg (cb_m1 hk).1, if_neg (cb_m1 hk).2.1]; rfl
  · by_cases hj : j < b
    · obtain ⟨k, hk, ek⟩ := cb_wn h2 hj
      rw [if_pos hj] at h2 ⊢
      rw [if_neg hi, wb_cons hj h2, wb_nil (a := i) (e := a) (by omega), ek]
      unfold oi
      rw [if_neg (fun z => (cb_m1 hk).1 z.symm), if_pos (cb_m1 hk).2.2]; rfl
    · rw [if_neg hi, if_neg hj] at h3; exact absurd rfl h3
theorem nm_strip_step {B : Nat → Int32} {lo e : Nat} (h : lo < e) (hz : pb_zero B (e - 1) = true) : nm_strip B lo e = nm_strip B lo (e - 1) := by
  cases e with
  | zero => omega
  | succ e => rw [nm_strip, if_pos ⟨h, hz⟩]; rfl
theorem nm_strip_stop {B : Nat → Int32} {lo e : Nat} (h : lo < e → pb_zero B (e - 1) = false) : nm_strip B lo e = e := by
  cases e with
  | zero => rfl
  | succ e =>
    rw [nm_strip, if_neg]
    rintro ⟨h1, h2⟩
    have h3 : pb_zero B e = false := h h1
    rw [h3] at h2; cases h2
theorem nm_strip_le {B : Nat → Int32} {lo : Nat} : ∀ e, nm_strip B lo e ≤ e := by
  intro e
  induction e with
  | zero => exact Nat.le_refl _
  | succ e ih => rw [nm_strip]; split; omega; exact Nat.le_refl _
theorem nm_a_le {B : Nat → Int32} {to a m : Nat} (h1 : a ≤ m) (h2 : to ≤ m) : sk (pb_blk B) to a ≤ m := sk_le2 h1 h2
theorem nm_whole_le {B : Nat → Int32} {to a m : Nat} (h1 : a ≤ m) (h2 : to ≤ m) : nm_whole B to a ≤ m := by
  unfold nm_whole
  refine sk_le2 ?_ h2
  split
  · rename_i h
    have : sk (pb_blk B) to a < to := by simp [nm_min] at h; exact h.1
    omega
  · exact sk_le2 h1 h2
theorem nm_wstop_le {B : Nat → Int32} {to a m : Nat} (h1 : a ≤ m) (h2 : to ≤ m) : nm_wstop B to a ≤ m := sk_le2 (nm_whole_le h1 h2) h2
theorem nm_frac_le {B : Nat → Int32} {to a m : Nat} (h1 : a ≤ m) (h2 : to ≤ m) : nm_frac B to a ≤ m := by
  unfold nm_frac
  split
  · rename_i h
    have : nm_wstop B to a < to := by simp [nm_point] at h; exact h.1
    omega
  · exact nm_wstop_le h1 h2
theorem nm_fend_le {B : Nat → Int32} {to a m : Nat} (h1 : a ≤ m) (h2 : to ≤ m) : nm_fend B to a ≤ m := by
  unfold nm_fend
  split
  · exact sk_le2 (nm_frac_le h1 h2) h2
  · exact nm_frac_le h1 h2
theorem nm_fstop_le {B : Nat → Int32} {to a m : Nat} (h1 : a ≤ m) (h2 : to ≤ m) : nm_fstop B to a ≤ m := Nat.le_trans (nm_strip_le _) (nm_fend_le h1 h2)
/-- what the fields of a numeral hold, from xb on -/
def nmo (x : Nat → Int32) (xb : Nat) (B : Nat → Int32) (to a : Nat) : Prop := x xb = nm_sign B to a ∧ x (xb + 1) = nI (nm_whole B to a) ∧ x (xb + 2) = nI (nm_wstop B to a) ∧ x (xb + 3) = nI (nm_frac B to a) ∧ x (xb + 4) = nI (nm_fstop B to a)
/-- as it was but for the five fields from xb on -/
def nmf (x x2 : Nat → Int32) (xb : Nat) : Prop := ∀ i, i < xb ∨ xb + 4 < i → x2 i = x i
end
section
/-! Lines in order: by a comparison, and by their numbers where that tells them the same -/
def bf (o : Nat → Nat → Ordering) (a b : Nat) : Bool := match o a b with
  | .lt => true
  | .eq => decide (a < b)
  | .gt => false
theorem bf_irr {o : Nat → Nat → Ordering} (h : gc o) (a : Nat) : bf o a a = false := by
  unfold bf; rw [h.rf a]; simp
theorem bf_lt {o : Nat → Nat → Ordering} {a b : Nat} : bf o a b = true ↔ (o a b).then (on a b) = .lt := by
  unfold bf on
  cases o a b with
  | lt => simp [Ordering.then]
  | gt => simp [Ordering.then]
  | eq =>
    by_cases h : a = b
    · subst h; simp [Ordering.then]
    · by_cases h2 : a < b
      · simp [Ordering.then, h, h2]
      · simp [Ordering.then, h, h2]
theorem bf_tr {o : Nat → Nat → Ordering} (h : gc o) {a b c : Nat} (h1 : bf o a b = true) (h2 : bf o b c = true) : bf o a c = true := by
  rw [bf_lt] at *
  have g := h.thn gc_on
  exact g.ltle (a := a) (b := b) (d := c) h1 (by rw [h2]; decide)
theorem bf_as {o : Nat → Nat → Ordering} (h : gc o) {a b : Nat} (h1 : bf o a b = true) : bf o b a = false := by
  cases h2 : bf o b a with
  | false => rfl
  | true => have := bf_tr h h1 h2; rw [bf_irr h a] at this; cases this
theorem bf_tot {o : Nat → Nat → Ordering} (h : gc o) {a b : Nat} (hne : a ≠ b) (h1 : bf o a b = false) : bf o b a = true := by
  unfold bf at *
  have h2 := h.1 a b
  cases e : o a b with
  | lt => rw [e] at h1; cases h1
  | gt => rw [e] at h2; rw [h2]; rfl
  | eq =>
    rw [e] at h1 h2
    rw [h2]
    simp only [Ordering.swap, decide_eq_true_eq]
    simp only [decide_eq_false_iff_not] at h1
    omega
/-- a row in order is the only one of its things -/
theorem so_uniq {r : Nat → Nat → Prop} (has : ∀ a b, r a b → r b a → False) : ∀ {l1 l2 : List Nat}, l1.Pairwise r → l2.Pairwise r → l1.Perm l2 → l1 = l2 := by
  intro l1
  induction l1 with
  | nil => intro l2 _ _ hp; exact (List.nil_perm.mp hp).symm
  | cons x xs ih =>
    intro l2 h1 h2 hp
    cases l2 with
    | nil => exact absurd hp.length_eq (by simp)
    | cons y ys =>
      have hxy : x = y := by
        by_cases e : x = y
        · exact e
        · exfalso
          have m1 : x ∈ y :: ys := hp.mem_iff.mp List.mem_cons_self
          have m2 : y ∈ x :: xs := hp.mem_iff.mpr List.mem_cons_self
          rcases List.mem_cons.mp m1 with h | h
          · exact e h
          · rcases List.mem_cons.mp m2 with h3 | h3
            · exact e h3.symm
            · exact has x y ((List.pairwise_cons.mp h1).1 y h3) ((List.pairwise_cons.mp h2).1 x h)
      subst hxy
      rw [ih (List.pairwise_cons.mp h1).2 (List.pairwise_cons.mp h2).2 (hp.cons_inv)]
end
