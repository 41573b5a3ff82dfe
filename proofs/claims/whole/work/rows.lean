section
-- ===== PART A: goes FIRST, ahead of the names: the tables' words, and 'selects' of the private methods out of them =====
/-- a private method of a class that the tables say can be made, by its rows of tables_1 -/
def lw_okq (q : MethodName × Nat) : Prop := (q.1.cls ≠ "java/lang/invoke/MethodHandle" ∧ q.1.cls ≠ "java/lang/invoke/VarHandle") ∧ Cond.instantiable q.1.cls q.2 ∈ tables_1 ∧ Cond.privateMethod q.1 ∈ tables_1 ∧ Cond.instanceMethod q.1 ∈ tables_1
theorem lw_p0 : lw_okq (⟨"LineSorter$Places", "fieldStart", "(III)I"⟩, 2) := ⟨⟨by decide +kernel, by decide +kernel⟩, List.mem_of_getElem? (i := 54) (by decide +kernel), List.mem_of_getElem? (i := 312) (by decide +kernel), List.mem_of_getElem? (i := 313) (by decide +kernel)⟩
theorem lw_p1 : lw_okq (⟨"LineSorter$Places", "fieldStop", "(II)I"⟩, 2) := ⟨⟨by decide +kernel, by decide +kernel⟩, List.mem_of_getElem? (i := 54) (by decide +kernel), List.mem_of_getElem? (i := 316) (by decide +kernel), List.mem_of_getElem? (i := 317) (by decide +kernel)⟩
theorem lw_p2 : lw_okq (⟨"LineSorter$Places", "passBlanksOfField", "(II)I"⟩, 2) := ⟨⟨by decide +kernel, by decide +kernel⟩, List.mem_of_getElem? (i := 54) (by decide +kernel), List.mem_of_getElem? (i := 320) (by decide +kernel), List.mem_of_getElem? (i := 321) (by decide +kernel)⟩
theorem lw_p3 : lw_okq (⟨"LineSorter$Order", "comparedAsNumbers", "(IIII)I"⟩, 10) := ⟨⟨by decide +kernel, by decide +kernel⟩, List.mem_of_getElem? (i := 68) (by decide +kernel), List.mem_of_getElem? (i := 339) (by decide +kernel), List.mem_of_getElem? (i := 340) (by decide +kernel)⟩
theorem lw_p4 : lw_okq (⟨"java/lang/Throwable", "fillInStackTrace", "(I)Ljava/lang/Throwable;"⟩, 6) := ⟨⟨by decide +kernel, by decide +kernel⟩, List.mem_of_getElem? (i := 435) (by decide +kernel), List.mem_of_getElem? (i := 433) (by decide +kernel), List.mem_of_getElem? (i := 434) (by decide +kernel)⟩
theorem lw_p5 : lw_okq (⟨"LineSorter$Text", "makeRoom", "(I)V"⟩, 4) := ⟨⟨by decide +kernel, by decide +kernel⟩, List.mem_of_getElem? (i := 31) (by decide +kernel), List.mem_of_getElem? (i := 468) (by decide +kernel), List.mem_of_getElem? (i := 469) (by decide +kernel)⟩
theorem lw_p6 : lw_okq (⟨"LineSorter", "isLine", "(I)Z"⟩, 10) := ⟨⟨by decide +kernel, by decide +kernel⟩, List.mem_of_getElem? (i := 23) (by decide +kernel), List.mem_of_getElem? (i := 585) (by decide +kernel), List.mem_of_getElem? (i := 586) (by decide +kernel)⟩
theorem lw_p7 : lw_okq (⟨"LineSorter$Heap", "sinkFromTop", "(I)V"⟩, 2) := ⟨⟨by decide +kernel, by decide +kernel⟩, List.mem_of_getElem? (i := 180) (by decide +kernel), List.mem_of_getElem? (i := 654) (by decide +kernel), List.mem_of_getElem? (i := 655) (by decide +kernel)⟩
theorem lw_p8 : lw_okq (⟨"LineSorter$Runs", "addLineToRun", "(I)V"⟩, 8) := ⟨⟨by decide +kernel, by decide +kernel⟩, List.mem_of_getElem? (i := 193) (by decide +kernel), List.mem_of_getElem? (i := 658) (by decide +kernel), List.mem_of_getElem? (i := 659) (by decide +kernel)⟩
theorem lw_p9 : lw_okq (⟨"LineSorter", "addToResult", "(I)V"⟩, 10) := ⟨⟨by decide +kernel, by decide +kernel⟩, List.mem_of_getElem? (i := 23) (by decide +kernel), List.mem_of_getElem? (i := 671) (by decide +kernel), List.mem_of_getElem? (i := 672) (by decide +kernel)⟩
theorem lw_p10 : lw_okq (⟨"LineSorterModel", "fails", "(ZI)Z"⟩, 32) := ⟨⟨by decide +kernel, by decide +kernel⟩, List.mem_of_getElem? (i := 695) (by decide +kernel), List.mem_of_getElem? (i := 806) (by decide +kernel), List.mem_of_getElem? (i := 807) (by decide +kernel)⟩
theorem lw_p11 : lw_okq (⟨"LineSorterModel", "change", "(I)V"⟩, 32) := ⟨⟨by decide +kernel, by decide +kernel⟩, List.mem_of_getElem? (i := 695) (by decide +kernel), List.mem_of_getElem? (i := 810) (by decide +kernel), List.mem_of_getElem? (i := 811) (by decide +kernel)⟩
theorem lw_p12 : lw_okq (⟨"LineSorterModel", "findLines", "()V"⟩, 32) := ⟨⟨by decide +kernel, by decide +kernel⟩, List.mem_of_getElem? (i := 695) (by decide +kernel), List.mem_of_getElem? (i := 845) (by decide +kernel), List.mem_of_getElem? (i := 846) (by decide +kernel)⟩
theorem lw_p13 : lw_okq (⟨"LineSorterModel", "keysThere", "()I"⟩, 32) := ⟨⟨by decide +kernel, by decide +kernel⟩, List.mem_of_getElem? (i := 695) (by decide +kernel), List.mem_of_getElem? (i := 853) (by decide +kernel), List.mem_of_getElem? (i := 854) (by decide +kernel)⟩
theorem lw_p14 : lw_okq (⟨"LineSorterModel", "keyEnd", "(II)I"⟩, 32) := ⟨⟨by decide +kernel, by decide +kernel⟩, List.mem_of_getElem? (i := 695) (by decide +kernel), List.mem_of_getElem? (i := 857) (by decide +kernel), List.mem_of_getElem? (i := 858) (by decide +kernel)⟩
theorem lw_p15 : lw_okq (⟨"LineSorterModel", "endOf", "(I)I"⟩, 32) := ⟨⟨by decide +kernel, by decide +kernel⟩, List.mem_of_getElem? (i := 695) (by decide +kernel), List.mem_of_getElem? (i := 861) (by decide +kernel), List.mem_of_getElem? (i := 862) (by decide +kernel)⟩
def lw_privs_1 : List (MethodName × Nat) := [(⟨"LineSorter$Places", "fieldStart", "(III)I"⟩, 2), (⟨"LineSorter$Places", "fieldStop", "(II)I"⟩, 2), (⟨"LineSorter$Places", "passBlanksOfField", "(II)I"⟩, 2), (⟨"LineSorter$Order", "comparedAsNumbers", "(IIII)I"⟩, 10), (⟨"java/lang/Throwable", "fillInStackTrace", "(I)Ljava/lang/Throwable;"⟩, 6), (⟨"LineSorter$Text", "makeRoom", "(I)V"⟩, 4), (⟨"LineSorter", "isLine", "(I)Z"⟩, 10), (⟨"LineSorter$Heap", "sinkFromTop", "(I)V"⟩, 2), (⟨"LineSorter$Runs", "addLineToRun", "(I)V"⟩, 8), (⟨"LineSorter", "addToResult", "(I)V"⟩, 10), (⟨"LineSorterModel", "fails", "(ZI)Z"⟩, 32), (⟨"LineSorterModel", "change", "(I)V"⟩, 32), (⟨"LineSorterModel", "findLines", "()V"⟩, 32), (⟨"LineSorterModel", "keysThere", "()I"⟩, 32), (⟨"LineSorterModel", "keyEnd", "(II)I"⟩, 32), (⟨"LineSorterModel", "endOf", "(I)I"⟩, 32)]
theorem lw_r1 : ∀ q ∈ lw_privs_1, lw_okq q := List.forall_mem_cons.mpr ⟨lw_p0, List.forall_mem_cons.mpr ⟨lw_p1, List.forall_mem_cons.mpr ⟨lw_p2, List.forall_mem_cons.mpr ⟨lw_p3, List.forall_mem_cons.mpr ⟨lw_p4, List.forall_mem_cons.mpr ⟨lw_p5, List.forall_mem_cons.mpr ⟨lw_p6, List.forall_mem_cons.mpr ⟨lw_p7, List.forall_mem_cons.mpr ⟨lw_p8, List.forall_mem_cons.mpr ⟨lw_p9, List.forall_mem_cons.mpr ⟨lw_p10, List.forall_mem_cons.mpr ⟨lw_p11, List.forall_mem_cons.mpr ⟨lw_p12, List.forall_mem_cons.mpr ⟨lw_p13, List.forall_mem_cons.mpr ⟨lw_p14, List.forall_mem_cons.mpr ⟨lw_p15, fun _ h => absurd h List.not_mem_nil⟩⟩⟩⟩⟩⟩⟩⟩⟩⟩⟩⟩⟩⟩⟩⟩
theorem lw_p16 : lw_okq (⟨"LineSorterModel", "keyOf", "(II)I"⟩, 32) := ⟨⟨by decide +kernel, by decide +kernel⟩, List.mem_of_getElem? (i := 695) (by decide +kernel), List.mem_of_getElem? (i := 865) (by decide +kernel), List.mem_of_getElem? (i := 866) (by decide +kernel)⟩
theorem lw_p17 : lw_okq (⟨"LineSorterModel", "find", "(II)Z"⟩, 32) := ⟨⟨by decide +kernel, by decide +kernel⟩, List.mem_of_getElem? (i := 695) (by decide +kernel), List.mem_of_getElem? (i := 869) (by decide +kernel), List.mem_of_getElem? (i := 870) (by decide +kernel)⟩
theorem lw_p18 : lw_okq (⟨"LineSorterModel", "startOf", "(I)I"⟩, 32) := ⟨⟨by decide +kernel, by decide +kernel⟩, List.mem_of_getElem? (i := 695) (by decide +kernel), List.mem_of_getElem? (i := 873) (by decide +kernel), List.mem_of_getElem? (i := 874) (by decide +kernel)⟩
theorem lw_p19 : lw_okq (⟨"LineSorterModel", "isBlank", "(I)Z"⟩, 32) := ⟨⟨by decide +kernel, by decide +kernel⟩, List.mem_of_getElem? (i := 695) (by decide +kernel), List.mem_of_getElem? (i := 877) (by decide +kernel), List.mem_of_getElem? (i := 878) (by decide +kernel)⟩
theorem lw_p20 : lw_okq (⟨"LineSorterModel", "begin", "(IZ)I"⟩, 32) := ⟨⟨by decide +kernel, by decide +kernel⟩, List.mem_of_getElem? (i := 695) (by decide +kernel), List.mem_of_getElem? (i := 881) (by decide +kernel), List.mem_of_getElem? (i := 882) (by decide +kernel)⟩
theorem lw_p21 : lw_okq (⟨"LineSorterModel", "keyBegin", "(II)I"⟩, 32) := ⟨⟨by decide +kernel, by decide +kernel⟩, List.mem_of_getElem? (i := 695) (by decide +kernel), List.mem_of_getElem? (i := 885) (by decide +kernel), List.mem_of_getElem? (i := 886) (by decide +kernel)⟩
theorem lw_p22 : lw_okq (⟨"LineSorterModel", "byKeys", "(II)I"⟩, 32) := ⟨⟨by decide +kernel, by decide +kernel⟩, List.mem_of_getElem? (i := 695) (by decide +kernel), List.mem_of_getElem? (i := 893) (by decide +kernel), List.mem_of_getElem? (i := 894) (by decide +kernel)⟩
theorem lw_p23 : lw_okq (⟨"LineSorterModel", "from", "(II)I"⟩, 32) := ⟨⟨by decide +kernel, by decide +kernel⟩, List.mem_of_getElem? (i := 695) (by decide +kernel), List.mem_of_getElem? (i := 897) (by decide +kernel), List.mem_of_getElem? (i := 898) (by decide +kernel)⟩
theorem lw_p24 : lw_okq (⟨"LineSorterModel", "to", "(II)I"⟩, 32) := ⟨⟨by decide +kernel, by decide +kernel⟩, List.mem_of_getElem? (i := 695) (by decide +kernel), List.mem_of_getElem? (i := 901) (by decide +kernel), List.mem_of_getElem? (i := 902) (by decide +kernel)⟩
theorem lw_p25 : lw_okq (⟨"LineSorterModel", "numbers", "(IIII)I"⟩, 32) := ⟨⟨by decide +kernel, by decide +kernel⟩, List.mem_of_getElem? (i := 695) (by decide +kernel), List.mem_of_getElem? (i := 905) (by decide +kernel), List.mem_of_getElem? (i := 906) (by decide +kernel)⟩
theorem lw_p26 : lw_okq (⟨"LineSorterModel", "sign", "(II)I"⟩, 32) := ⟨⟨by decide +kernel, by decide +kernel⟩, List.mem_of_getElem? (i := 695) (by decide +kernel), List.mem_of_getElem? (i := 909) (by decide +kernel), List.mem_of_getElem? (i := 910) (by decide +kernel)⟩
theorem lw_p27 : lw_okq (⟨"LineSorterModel", "wholeAt", "(II)I"⟩, 32) := ⟨⟨by decide +kernel, by decide +kernel⟩, List.mem_of_getElem? (i := 695) (by decide +kernel), List.mem_of_getElem? (i := 913) (by decide +kernel), List.mem_of_getElem? (i := 914) (by decide +kernel)⟩
theorem lw_p28 : lw_okq (⟨"LineSorterModel", "behindBlanks", "(II)I"⟩, 32) := ⟨⟨by decide +kernel, by decide +kernel⟩, List.mem_of_getElem? (i := 695) (by decide +kernel), List.mem_of_getElem? (i := 917) (by decide +kernel), List.mem_of_getElem? (i := 918) (by decide +kernel)⟩
theorem lw_p29 : lw_okq (⟨"LineSorterModel", "isMinus", "(II)Z"⟩, 32) := ⟨⟨by decide +kernel, by decide +kernel⟩, List.mem_of_getElem? (i := 695) (by decide +kernel), List.mem_of_getElem? (i := 921) (by decide +kernel), List.mem_of_getElem? (i := 922) (by decide +kernel)⟩
theorem lw_p30 : lw_okq (⟨"LineSorterModel", "isZero", "(II)Z"⟩, 32) := ⟨⟨by decide +kernel, by decide +kernel⟩, List.mem_of_getElem? (i := 695) (by decide +kernel), List.mem_of_getElem? (i := 925) (by decide +kernel), List.mem_of_getElem? (i := 926) (by decide +kernel)⟩
theorem lw_p31 : lw_okq (⟨"LineSorterModel", "isDigit", "(II)Z"⟩, 32) := ⟨⟨by decide +kernel, by decide +kernel⟩, List.mem_of_getElem? (i := 695) (by decide +kernel), List.mem_of_getElem? (i := 929) (by decide +kernel), List.mem_of_getElem? (i := 930) (by decide +kernel)⟩
def lw_privs_2 : List (MethodName × Nat) := [(⟨"LineSorterModel", "keyOf", "(II)I"⟩, 32), (⟨"LineSorterModel", "find", "(II)Z"⟩, 32), (⟨"LineSorterModel", "startOf", "(I)I"⟩, 32), (⟨"LineSorterModel", "isBlank", "(I)Z"⟩, 32), (⟨"LineSorterModel", "begin", "(IZ)I"⟩, 32), (⟨"LineSorterModel", "keyBegin", "(II)I"⟩, 32), (⟨"LineSorterModel", "byKeys", "(II)I"⟩, 32), (⟨"LineSorterModel", "from", "(II)I"⟩, 32), (⟨"LineSorterModel", "to", "(II)I"⟩, 32), (⟨"LineSorterModel", "numbers", "(IIII)I"⟩, 32), (⟨"LineSorterModel", "sign", "(II)I"⟩, 32), (⟨"LineSorterModel", "wholeAt", "(II)I"⟩, 32), (⟨"LineSorterModel", "behindBlanks", "(II)I"⟩, 32), (⟨"LineSorterModel", "isMinus", "(II)Z"⟩, 32), (⟨"LineSorterModel", "isZero", "(II)Z"⟩, 32), (⟨"LineSorterModel", "isDigit", "(II)Z"⟩, 32)]
theorem lw_r2 : ∀ q ∈ lw_privs_2, lw_okq q := List.forall_mem_cons.mpr ⟨lw_p16, List.forall_mem_cons.mpr ⟨lw_p17, List.forall_mem_cons.mpr ⟨lw_p18, List.forall_mem_cons.mpr ⟨lw_p19, List.forall_mem_cons.mpr ⟨lw_p20, List.forall_mem_cons.mpr ⟨lw_p21, List.forall_mem_cons.mpr ⟨lw_p22, List.forall_mem_cons.mpr ⟨lw_p23, List.forall_mem_cons.mpr ⟨lw_p24, List.forall_mem_cons.mpr ⟨lw_p25, List.forall_mem_cons.mpr ⟨lw_p26, List.forall_mem_cons.mpr ⟨lw_p27, List.forall_mem_cons.mpr ⟨lw_p28, List.forall_mem_cons.mpr ⟨lw_p29, List.forall_mem_cons.mpr ⟨lw_p30, List.forall_mem_cons.mpr ⟨lw_p31, fun _ h => absurd h List.not_mem_nil⟩⟩⟩⟩⟩⟩⟩⟩⟩⟩⟩⟩⟩⟩⟩⟩
theorem lw_p32 : lw_okq (⟨"LineSorterModel", "partAt", "(II)I"⟩, 32) := ⟨⟨by decide +kernel, by decide +kernel⟩, List.mem_of_getElem? (i := 695) (by decide +kernel), List.mem_of_getElem? (i := 933) (by decide +kernel), List.mem_of_getElem? (i := 934) (by decide +kernel)⟩
theorem lw_p33 : lw_okq (⟨"LineSorterModel", "behindDigits", "(II)I"⟩, 32) := ⟨⟨by decide +kernel, by decide +kernel⟩, List.mem_of_getElem? (i := 695) (by decide +kernel), List.mem_of_getElem? (i := 937) (by decide +kernel), List.mem_of_getElem? (i := 938) (by decide +kernel)⟩
theorem lw_p34 : lw_okq (⟨"LineSorterModel", "sizes", "(IIII)I"⟩, 32) := ⟨⟨by decide +kernel, by decide +kernel⟩, List.mem_of_getElem? (i := 695) (by decide +kernel), List.mem_of_getElem? (i := 941) (by decide +kernel), List.mem_of_getElem? (i := 942) (by decide +kernel)⟩
theorem lw_p35 : lw_okq (⟨"LineSorterModel", "bytes", "(IIIII)I"⟩, 32) := ⟨⟨by decide +kernel, by decide +kernel⟩, List.mem_of_getElem? (i := 695) (by decide +kernel), List.mem_of_getElem? (i := 945) (by decide +kernel), List.mem_of_getElem? (i := 946) (by decide +kernel)⟩
theorem lw_p36 : lw_okq (⟨"LineSorterModel", "counts", "(II)Z"⟩, 32) := ⟨⟨by decide +kernel, by decide +kernel⟩, List.mem_of_getElem? (i := 695) (by decide +kernel), List.mem_of_getElem? (i := 949) (by decide +kernel), List.mem_of_getElem? (i := 950) (by decide +kernel)⟩
theorem lw_p37 : lw_okq (⟨"LineSorterModel", "folded", "(II)I"⟩, 32) := ⟨⟨by decide +kernel, by decide +kernel⟩, List.mem_of_getElem? (i := 695) (by decide +kernel), List.mem_of_getElem? (i := 953) (by decide +kernel), List.mem_of_getElem? (i := 954) (by decide +kernel)⟩
theorem lw_p38 : lw_okq (⟨"LineSorterModel", "hold", "()V"⟩, 32) := ⟨⟨by decide +kernel, by decide +kernel⟩, List.mem_of_getElem? (i := 695) (by decide +kernel), List.mem_of_getElem? (i := 961) (by decide +kernel), List.mem_of_getElem? (i := 962) (by decide +kernel)⟩
theorem lw_p39 : lw_okq (⟨"LineSorterModel", "makeRuns", "()V"⟩, 32) := ⟨⟨by decide +kernel, by decide +kernel⟩, List.mem_of_getElem? (i := 695) (by decide +kernel), List.mem_of_getElem? (i := 965) (by decide +kernel), List.mem_of_getElem? (i := 966) (by decide +kernel)⟩
theorem lw_p40 : lw_okq (⟨"LineSorterModel", "isBefore", "(II)Z"⟩, 32) := ⟨⟨by decide +kernel, by decide +kernel⟩, List.mem_of_getElem? (i := 695) (by decide +kernel), List.mem_of_getElem? (i := 969) (by decide +kernel), List.mem_of_getElem? (i := 970) (by decide +kernel)⟩
theorem lw_p41 : lw_okq (⟨"LineSorterModel", "byAll", "(II)I"⟩, 32) := ⟨⟨by decide +kernel, by decide +kernel⟩, List.mem_of_getElem? (i := 695) (by decide +kernel), List.mem_of_getElem? (i := 973) (by decide +kernel), List.mem_of_getElem? (i := 974) (by decide +kernel)⟩
theorem lw_p42 : lw_okq (⟨"LineSorterModel", "mergeFirst", "()V"⟩, 32) := ⟨⟨by decide +kernel, by decide +kernel⟩, List.mem_of_getElem? (i := 695) (by decide +kernel), List.mem_of_getElem? (i := 977) (by decide +kernel), List.mem_of_getElem? (i := 978) (by decide +kernel)⟩
theorem lw_p43 : lw_okq (⟨"LineSorterModel", "headOf", "(I)I"⟩, 32) := ⟨⟨by decide +kernel, by decide +kernel⟩, List.mem_of_getElem? (i := 695) (by decide +kernel), List.mem_of_getElem? (i := 981) (by decide +kernel), List.mem_of_getElem? (i := 982) (by decide +kernel)⟩
def lw_privs_3 : List (MethodName × Nat) := [(⟨"LineSorterModel", "partAt", "(II)I"⟩, 32), (⟨"LineSorterModel", "behindDigits", "(II)I"⟩, 32), (⟨"LineSorterModel", "sizes", "(IIII)I"⟩, 32), (⟨"LineSorterModel", "bytes", "(IIIII)I"⟩, 32), (⟨"LineSorterModel", "counts", "(II)Z"⟩, 32), (⟨"LineSorterModel", "folded", "(II)I"⟩, 32), (⟨"LineSorterModel", "hold", "()V"⟩, 32), (⟨"LineSorterModel", "makeRuns", "()V"⟩, 32), (⟨"LineSorterModel", "isBefore", "(II)Z"⟩, 32), (⟨"LineSorterModel", "byAll", "(II)I"⟩, 32), (⟨"LineSorterModel", "mergeFirst", "()V"⟩, 32), (⟨"LineSorterModel", "headOf", "(I)I"⟩, 32)]
theorem lw_r3 : ∀ q ∈ lw_privs_3, lw_okq q := List.forall_mem_cons.mpr ⟨lw_p32, List.forall_mem_cons.mpr ⟨lw_p33, List.forall_mem_cons.mpr ⟨lw_p34, List.forall_mem_cons.mpr ⟨lw_p35, List.forall_mem_cons.mpr ⟨lw_p36, List.forall_mem_cons.mpr ⟨lw_p37, List.forall_mem_cons.mpr ⟨lw_p38, List.forall_mem_cons.mpr ⟨lw_p39, List.forall_mem_cons.mpr ⟨lw_p40, List.forall_mem_cons.mpr ⟨lw_p41, List.forall_mem_cons.mpr ⟨lw_p42, List.forall_mem_cons.mpr ⟨lw_p43, fun _ h => absurd h List.not_mem_nil⟩⟩⟩⟩⟩⟩⟩⟩⟩⟩⟩⟩
def lw_privs : List (MethodName × Nat) := lw_privs_1 ++ (lw_privs_2 ++ (lw_privs_3))
def lw_tbl : List Cond := k2_sels lw_privs ++ tables_1
theorem lw_privs_ok : ∀ q ∈ lw_privs, lw_okq q := by
  show ∀ q ∈ lw_privs_1 ++ (lw_privs_2 ++ (lw_privs_3)), lw_okq q
  exact List.forall_mem_append.mpr ⟨lw_r1, List.forall_mem_append.mpr ⟨lw_r2, lw_r3⟩⟩
end
section
abbrev XM : Type := MethodName × ByteArray × Nat × Option FieldType
abbrev cn_S : String := "LineSorter"
abbrev cn_T : String := "LineSorter$Text"
abbrev cn_P : String := "LineSorter$Places"
abbrev cn_O : String := "LineSorter$Order"
abbrev cn_K : String := "LineSorter$Key"
abbrev cn_N : String := "LineSorter$Numeral"
abbrev cn_R : String := "LineSorter$Ranking"
abbrev cn_H : String := "LineSorter$Heap"
abbrev cn_U : String := "LineSorter$Runs"
abbrev cn_M : String := "LineSorterModel"
abbrev cn_L : String := "LineSorterLaw"
abbrev b_S_init : ByteArray := prog_1_method_1_code
abbrev y_S_init : MethodName := ⟨"LineSorter", "<init>", "()V"⟩
abbrev m_S_init : XM := (y_S_init, b_S_init, 1, none)
abbrev b_S_feed : ByteArray := prog_1_method_2_code
abbrev y_S_feed : MethodName := ⟨"LineSorter", "feed", "(IIIII)I"⟩
abbrev m_S_feed : XM := (y_S_feed, b_S_feed, 6, (some .int))
abbrev b_S_end : ByteArray := prog_1_method_3_code
abbrev y_S_end : MethodName := ⟨"LineSorter", "end", "(I)V"⟩
abbrev m_S_end : XM := (y_S_end, b_S_end, 2, none)
abbrev b_S_ways : ByteArray := prog_1_method_4_code
abbrev y_S_ways : MethodName := ⟨"LineSorter", "ways", "(IZZ)V"⟩
abbrev m_S_ways : XM := (y_S_ways, b_S_ways, 4, none)
abbrev b_S_separator : ByteArray := prog_1_method_5_code
abbrev y_S_separator : MethodName := ⟨"LineSorter", "separator", "(I)V"⟩
abbrev m_S_separator : XM := (y_S_separator, b_S_separator, 2, none)
abbrev b_S_key : ByteArray := prog_1_method_6_code
abbrev y_S_key : MethodName := ⟨"LineSorter", "key", "(IIIII)I"⟩
abbrev m_S_key : XM := (y_S_key, b_S_key, 8, (some .int))
abbrev b_S_keyless : ByteArray := prog_1_method_7_code
abbrev y_S_keyless : MethodName := ⟨"LineSorter", "keyless", "()I"⟩
abbrev m_S_keyless : XM := (y_S_keyless, b_S_keyless, 2, (some .int))
abbrev b_S_memory : ByteArray := prog_1_method_8_code
abbrev y_S_memory : MethodName := ⟨"LineSorter", "memory", "(II)V"⟩
abbrev m_S_memory : XM := (y_S_memory, b_S_memory, 3, none)
abbrev b_S_lines : ByteArray := prog_1_method_9_code
abbrev y_S_lines : MethodName := ⟨"LineSorter", "lines", "()I"⟩
abbrev m_S_lines : XM := (y_S_lines, b_S_lines, 1, (some .int))
abbrev b_S_place : ByteArray := prog_1_method_10_code
abbrev y_S_place : MethodName := ⟨"LineSorter", "place", "(IIZ)I"⟩
abbrev m_S_place : XM := (y_S_place, b_S_place, 7, (some .int))
abbrev b_S_compare : ByteArray := prog_1_method_11_code
abbrev y_S_compare : MethodName := ⟨"LineSorter", "compare", "(II)I"⟩
abbrev m_S_compare : XM := (y_S_compare, b_S_compare, 3, (some .int))
abbrev b_S_sort : ByteArray := prog_1_method_12_code
abbrev y_S_sort : MethodName := ⟨"LineSorter", "sort", "()I"⟩
abbrev m_S_sort : XM := (y_S_sort, b_S_sort, 3, (some .int))
abbrev b_S_check : ByteArray := prog_1_method_13_code
abbrev y_S_check : MethodName := ⟨"LineSorter", "check", "()I"⟩
abbrev m_S_check : XM := (y_S_check, b_S_check, 4, (some .int))
abbrev b_S_merge : ByteArray := prog_1_method_14_code
abbrev y_S_merge : MethodName := ⟨"LineSorter", "merge", "(I)I"⟩
abbrev m_S_merge : XM := (y_S_merge, b_S_merge, 6, (some .int))
abbrev b_S_result : ByteArray := prog_1_method_15_code
abbrev y_S_result : MethodName := ⟨"LineSorter", "result", "(I)I"⟩
abbrev m_S_result : XM := (y_S_result, b_S_result, 2, (some .int))
abbrev b_S_byteAt : ByteArray := prog_1_method_16_code
abbrev y_S_byteAt : MethodName := ⟨"LineSorter", "byteAt", "(II)I"⟩
abbrev m_S_byteAt : XM := (y_S_byteAt, b_S_byteAt, 5, (some .int))
abbrev b_S_run : ByteArray := prog_1_method_17_code
abbrev y_S_run : MethodName := ⟨"LineSorter", "run", "(I)I"⟩
abbrev m_S_run : XM := (y_S_run, b_S_run, 2, (some .int))
abbrev b_S_about : ByteArray := prog_1_method_18_code
abbrev y_S_about : MethodName := ⟨"LineSorter", "about", "(I)I"⟩
abbrev m_S_about : XM := (y_S_about, b_S_about, 2, (some .int))
abbrev b_S_isLine : ByteArray := prog_1_method_19_code
abbrev y_S_isLine : MethodName := ⟨"LineSorter", "isLine", "(I)Z"⟩
abbrev m_S_isLine : XM := (y_S_isLine, b_S_isLine, 2, (some .boolean))
abbrev b_S_addToResult : ByteArray := prog_1_method_20_code
abbrev y_S_addToResult : MethodName := ⟨"LineSorter", "addToResult", "(I)V"⟩
abbrev m_S_addToResult : XM := (y_S_addToResult, b_S_addToResult, 3, none)
abbrev b_S_isWithin : ByteArray := prog_1_method_21_code
abbrev y_S_isWithin : MethodName := ⟨"LineSorter", "isWithin", "(III)Z"⟩
abbrev m_S_isWithin : XM := (y_S_isWithin, b_S_isWithin, 3, (some .boolean))
abbrev b_M_init : ByteArray := prog_11_method_1_code
abbrev y_M_init : MethodName := ⟨"LineSorterModel", "<init>", "()V"⟩
abbrev m_M_init : XM := (y_M_init, b_M_init, 1, none)
abbrev b_M_thrown : ByteArray := prog_11_method_2_code
abbrev y_M_thrown : MethodName := ⟨"LineSorterModel", "thrown", "()I"⟩
abbrev m_M_thrown : XM := (y_M_thrown, b_M_thrown, 1, (some .int))
abbrev b_M_fails : ByteArray := prog_11_method_3_code
abbrev y_M_fails : MethodName := ⟨"LineSorterModel", "fails", "(ZI)Z"⟩
abbrev m_M_fails : XM := (y_M_fails, b_M_fails, 3, (some .boolean))
abbrev b_M_change : ByteArray := prog_11_method_4_code
abbrev y_M_change : MethodName := ⟨"LineSorterModel", "change", "(I)V"⟩
abbrev m_M_change : XM := (y_M_change, b_M_change, 2, none)
abbrev b_M_feed : ByteArray := prog_11_method_5_code
abbrev y_M_feed : MethodName := ⟨"LineSorterModel", "feed", "(IIIII)I"⟩
abbrev m_M_feed : XM := (y_M_feed, b_M_feed, 8, (some .int))
abbrev b_M_end : ByteArray := prog_11_method_6_code
abbrev y_M_end : MethodName := ⟨"LineSorterModel", "end", "(I)V"⟩
abbrev m_M_end : XM := (y_M_end, b_M_end, 2, none)
abbrev b_M_findLines : ByteArray := prog_11_method_7_code
abbrev y_M_findLines : MethodName := ⟨"LineSorterModel", "findLines", "()V"⟩
abbrev m_M_findLines : XM := (y_M_findLines, b_M_findLines, 2, none)
abbrev b_M_startOf : ByteArray := prog_11_method_8_code
abbrev y_M_startOf : MethodName := ⟨"LineSorterModel", "startOf", "(I)I"⟩
abbrev m_M_startOf : XM := (y_M_startOf, b_M_startOf, 2, (some .int))
abbrev b_M_endOf : ByteArray := prog_11_method_9_code
abbrev y_M_endOf : MethodName := ⟨"LineSorterModel", "endOf", "(I)I"⟩
abbrev m_M_endOf : XM := (y_M_endOf, b_M_endOf, 2, (some .int))
abbrev b_M_within : ByteArray := prog_11_method_10_code
abbrev y_M_within : MethodName := ⟨"LineSorterModel", "within", "(III)Z"⟩
abbrev m_M_within : XM := (y_M_within, b_M_within, 3, (some .boolean))
abbrev b_M_ways : ByteArray := prog_11_method_11_code
abbrev y_M_ways : MethodName := ⟨"LineSorterModel", "ways", "(IZZ)V"⟩
abbrev m_M_ways : XM := (y_M_ways, b_M_ways, 4, none)
abbrev b_M_separator : ByteArray := prog_11_method_12_code
abbrev y_M_separator : MethodName := ⟨"LineSorterModel", "separator", "(I)V"⟩
abbrev m_M_separator : XM := (y_M_separator, b_M_separator, 2, none)
abbrev b_M_key : ByteArray := prog_11_method_13_code
abbrev y_M_key : MethodName := ⟨"LineSorterModel", "key", "(IIIII)I"⟩
abbrev m_M_key : XM := (y_M_key, b_M_key, 7, (some .int))
abbrev b_M_keyless : ByteArray := prog_11_method_14_code
abbrev y_M_keyless : MethodName := ⟨"LineSorterModel", "keyless", "()I"⟩
abbrev m_M_keyless : XM := (y_M_keyless, b_M_keyless, 2, (some .int))
abbrev b_M_memory : ByteArray := prog_11_method_15_code
abbrev y_M_memory : MethodName := ⟨"LineSorterModel", "memory", "(II)V"⟩
abbrev m_M_memory : XM := (y_M_memory, b_M_memory, 3, none)
abbrev b_M_keysThere : ByteArray := prog_11_method_16_code
abbrev y_M_keysThere : MethodName := ⟨"LineSorterModel", "keysThere", "()I"⟩
abbrev m_M_keysThere : XM := (y_M_keysThere, b_M_keysThere, 1, (some .int))
abbrev b_M_keyOf : ByteArray := prog_11_method_17_code
abbrev y_M_keyOf : MethodName := ⟨"LineSorterModel", "keyOf", "(II)I"⟩
abbrev m_M_keyOf : XM := (y_M_keyOf, b_M_keyOf, 4, (some .int))
abbrev b_M_isBlank : ByteArray := prog_11_method_18_code
abbrev y_M_isBlank : MethodName := ⟨"LineSorterModel", "isBlank", "(I)Z"⟩
abbrev m_M_isBlank : XM := (y_M_isBlank, b_M_isBlank, 2, (some .boolean))
abbrev b_M_find : ByteArray := prog_11_method_19_code
abbrev y_M_find : MethodName := ⟨"LineSorterModel", "find", "(II)Z"⟩
abbrev m_M_find : XM := (y_M_find, b_M_find, 7, (some .boolean))
abbrev b_M_begin : ByteArray := prog_11_method_20_code
abbrev y_M_begin : MethodName := ⟨"LineSorterModel", "begin", "(IZ)I"⟩
abbrev m_M_begin : XM := (y_M_begin, b_M_begin, 5, (some .int))
abbrev b_M_keyBegin : ByteArray := prog_11_method_21_code
abbrev y_M_keyBegin : MethodName := ⟨"LineSorterModel", "keyBegin", "(II)I"⟩
abbrev m_M_keyBegin : XM := (y_M_keyBegin, b_M_keyBegin, 5, (some .int))
abbrev b_M_keyEnd : ByteArray := prog_11_method_22_code
abbrev y_M_keyEnd : MethodName := ⟨"LineSorterModel", "keyEnd", "(II)I"⟩
abbrev m_M_keyEnd : XM := (y_M_keyEnd, b_M_keyEnd, 6, (some .int))
abbrev b_M_from : ByteArray := prog_11_method_23_code
abbrev y_M_from : MethodName := ⟨"LineSorterModel", "from", "(II)I"⟩
abbrev m_M_from : XM := (y_M_from, b_M_from, 3, (some .int))
abbrev b_M_to : ByteArray := prog_11_method_24_code
abbrev y_M_to : MethodName := ⟨"LineSorterModel", "to", "(II)I"⟩
abbrev m_M_to : XM := (y_M_to, b_M_to, 3, (some .int))
abbrev b_M_counts : ByteArray := prog_11_method_25_code
abbrev y_M_counts : MethodName := ⟨"LineSorterModel", "counts", "(II)Z"⟩
abbrev m_M_counts : XM := (y_M_counts, b_M_counts, 5, (some .boolean))
abbrev b_M_folded : ByteArray := prog_11_method_26_code
abbrev y_M_folded : MethodName := ⟨"LineSorterModel", "folded", "(II)I"⟩
abbrev m_M_folded : XM := (y_M_folded, b_M_folded, 4, (some .int))
abbrev b_M_bytes : ByteArray := prog_11_method_27_code
abbrev y_M_bytes : MethodName := ⟨"LineSorterModel", "bytes", "(IIIII)I"⟩
abbrev m_M_bytes : XM := (y_M_bytes, b_M_bytes, 10, (some .int))
abbrev b_M_isDigit : ByteArray := prog_11_method_28_code
abbrev y_M_isDigit : MethodName := ⟨"LineSorterModel", "isDigit", "(II)Z"⟩
abbrev m_M_isDigit : XM := (y_M_isDigit, b_M_isDigit, 3, (some .boolean))
abbrev b_M_behindBlanks : ByteArray := prog_11_method_29_code
abbrev y_M_behindBlanks : MethodName := ⟨"LineSorterModel", "behindBlanks", "(II)I"⟩
abbrev m_M_behindBlanks : XM := (y_M_behindBlanks, b_M_behindBlanks, 4, (some .int))
abbrev b_M_isMinus : ByteArray := prog_11_method_30_code
abbrev y_M_isMinus : MethodName := ⟨"LineSorterModel", "isMinus", "(II)Z"⟩
abbrev m_M_isMinus : XM := (y_M_isMinus, b_M_isMinus, 3, (some .boolean))
abbrev b_M_wholeAt : ByteArray := prog_11_method_31_code
abbrev y_M_wholeAt : MethodName := ⟨"LineSorterModel", "wholeAt", "(II)I"⟩
abbrev m_M_wholeAt : XM := (y_M_wholeAt, b_M_wholeAt, 4, (some .int))
abbrev b_M_behindDigits : ByteArray := prog_11_method_32_code
abbrev y_M_behindDigits : MethodName := ⟨"LineSorterModel", "behindDigits", "(II)I"⟩
abbrev m_M_behindDigits : XM := (y_M_behindDigits, b_M_behindDigits, 4, (some .int))
abbrev b_M_partAt : ByteArray := prog_11_method_33_code
abbrev y_M_partAt : MethodName := ⟨"LineSorterModel", "partAt", "(II)I"⟩
abbrev m_M_partAt : XM := (y_M_partAt, b_M_partAt, 4, (some .int))
abbrev b_M_sizes : ByteArray := prog_11_method_34_code
abbrev y_M_sizes : MethodName := ⟨"LineSorterModel", "sizes", "(IIII)I"⟩
abbrev m_M_sizes : XM := (y_M_sizes, b_M_sizes, 11, (some .int))
abbrev b_M_isZero : ByteArray := prog_11_method_35_code
abbrev y_M_isZero : MethodName := ⟨"LineSorterModel", "isZero", "(II)Z"⟩
abbrev m_M_isZero : XM := (y_M_isZero, b_M_isZero, 4, (some .boolean))
abbrev b_M_sign : ByteArray := prog_11_method_36_code
abbrev y_M_sign : MethodName := ⟨"LineSorterModel", "sign", "(II)I"⟩
abbrev m_M_sign : XM := (y_M_sign, b_M_sign, 3, (some .int))
abbrev b_M_numbers : ByteArray := prog_11_method_37_code
abbrev y_M_numbers : MethodName := ⟨"LineSorterModel", "numbers", "(IIII)I"⟩
abbrev m_M_numbers : XM := (y_M_numbers, b_M_numbers, 7, (some .int))
abbrev b_M_byKeys : ByteArray := prog_11_method_38_code
abbrev y_M_byKeys : MethodName := ⟨"LineSorterModel", "byKeys", "(II)I"⟩
abbrev m_M_byKeys : XM := (y_M_byKeys, b_M_byKeys, 8, (some .int))
abbrev b_M_byAll : ByteArray := prog_11_method_39_code
abbrev y_M_byAll : MethodName := ⟨"LineSorterModel", "byAll", "(II)I"⟩
abbrev m_M_byAll : XM := (y_M_byAll, b_M_byAll, 5, (some .int))
abbrev b_M_isBefore : ByteArray := prog_11_method_40_code
abbrev y_M_isBefore : MethodName := ⟨"LineSorterModel", "isBefore", "(II)Z"⟩
abbrev m_M_isBefore : XM := (y_M_isBefore, b_M_isBefore, 4, (some .boolean))
abbrev b_M_lines : ByteArray := prog_11_method_41_code
abbrev y_M_lines : MethodName := ⟨"LineSorterModel", "lines", "()I"⟩
abbrev m_M_lines : XM := (y_M_lines, b_M_lines, 1, (some .int))
abbrev b_M_place : ByteArray := prog_11_method_42_code
abbrev y_M_place : MethodName := ⟨"LineSorterModel", "place", "(IIZ)I"⟩
abbrev m_M_place : XM := (y_M_place, b_M_place, 4, (some .int))
abbrev b_M_compare : ByteArray := prog_11_method_43_code
abbrev y_M_compare : MethodName := ⟨"LineSorterModel", "compare", "(II)I"⟩
abbrev m_M_compare : XM := (y_M_compare, b_M_compare, 3, (some .int))
abbrev b_M_hold : ByteArray := prog_11_method_44_code
abbrev y_M_hold : MethodName := ⟨"LineSorterModel", "hold", "()V"⟩
abbrev m_M_hold : XM := (y_M_hold, b_M_hold, 3, none)
abbrev b_M_makeRuns : ByteArray := prog_11_method_45_code
abbrev y_M_makeRuns : MethodName := ⟨"LineSorterModel", "makeRuns", "()V"⟩
abbrev m_M_makeRuns : XM := (y_M_makeRuns, b_M_makeRuns, 8, none)
abbrev b_M_mergeFirst : ByteArray := prog_11_method_46_code
abbrev y_M_mergeFirst : MethodName := ⟨"LineSorterModel", "mergeFirst", "()V"⟩
abbrev m_M_mergeFirst : XM := (y_M_mergeFirst, b_M_mergeFirst, 9, none)
abbrev b_M_headOf : ByteArray := prog_11_method_47_code
abbrev y_M_headOf : MethodName := ⟨"LineSorterModel", "headOf", "(I)I"⟩
abbrev m_M_headOf : XM := (y_M_headOf, b_M_headOf, 4, (some .int))
abbrev b_M_sort : ByteArray := prog_11_method_48_code
abbrev y_M_sort : MethodName := ⟨"LineSorterModel", "sort", "()I"⟩
abbrev m_M_sort : XM := (y_M_sort, b_M_sort, 2, (some .int))
abbrev b_M_check : ByteArray := prog_11_method_49_code
abbrev y_M_check : MethodName := ⟨"LineSorterModel", "check", "()I"⟩
abbrev m_M_check : XM := (y_M_check, b_M_check, 3, (some .int))
abbrev b_M_merge : ByteArray := prog_11_method_50_code
abbrev y_M_merge : MethodName := ⟨"LineSorterModel", "merge", "(I)I"⟩
abbrev m_M_merge : XM := (y_M_merge, b_M_merge, 8, (some .int))
abbrev b_M_result : ByteArray := prog_11_method_51_code
abbrev y_M_result : MethodName := ⟨"LineSorterModel", "result", "(I)I"⟩
abbrev m_M_result : XM := (y_M_result, b_M_result, 2, (some .int))
abbrev b_M_byteAt : ByteArray := prog_11_method_52_code
abbrev y_M_byteAt : MethodName := ⟨"LineSorterModel", "byteAt", "(II)I"⟩
abbrev m_M_byteAt : XM := (y_M_byteAt, b_M_byteAt, 4, (some .int))
abbrev b_M_run : ByteArray := prog_11_method_53_code
abbrev y_M_run : MethodName := ⟨"LineSorterModel", "run", "(I)I"⟩
abbrev m_M_run : XM := (y_M_run, b_M_run, 2, (some .int))
abbrev b_M_about : ByteArray := prog_11_method_54_code
abbrev y_M_about : MethodName := ⟨"LineSorterModel", "about", "(I)I"⟩
abbrev m_M_about : XM := (y_M_about, b_M_about, 2, (some .int))
abbrev b_H_init : ByteArray := prog_2_method_1_code
abbrev y_H_init : MethodName := ⟨"LineSorter$Heap", "<init>", "()V"⟩
abbrev m_H_init : XM := (y_H_init, b_H_init, 1, none)
abbrev b_H_clear : ByteArray := prog_2_method_2_code
abbrev y_H_clear : MethodName := ⟨"LineSorter$Heap", "clear", "()V"⟩
abbrev m_H_clear : XM := (y_H_clear, b_H_clear, 1, none)
abbrev b_H_put : ByteArray := prog_2_method_3_code
abbrev y_H_put : MethodName := ⟨"LineSorter$Heap", "put", "(I)V"⟩
abbrev m_H_put : XM := (y_H_put, b_H_put, 3, none)
abbrev b_H_takeLeast : ByteArray := prog_2_method_4_code
abbrev y_H_takeLeast : MethodName := ⟨"LineSorter$Heap", "takeLeast", "()I"⟩
abbrev m_H_takeLeast : XM := (y_H_takeLeast, b_H_takeLeast, 2, (some .int))
abbrev b_H_sinkFromTop : ByteArray := prog_2_method_5_code
abbrev y_H_sinkFromTop : MethodName := ⟨"LineSorter$Heap", "sinkFromTop", "(I)V"⟩
abbrev m_H_sinkFromTop : XM := (y_H_sinkFromTop, b_H_sinkFromTop, 4, none)
abbrev b_K_init : ByteArray := prog_3_method_1_code
abbrev y_K_init : MethodName := ⟨"LineSorter$Key", "<init>", "(IIIII)V"⟩
abbrev m_K_init : XM := (y_K_init, b_K_init, 6, none)
abbrev b_N_init : ByteArray := prog_4_method_1_code
abbrev y_N_init : MethodName := ⟨"LineSorter$Numeral", "<init>", "()V"⟩
abbrev m_N_init : XM := (y_N_init, b_N_init, 1, none)
abbrev b_N_read : ByteArray := prog_4_method_2_code
abbrev y_N_read : MethodName := ⟨"LineSorter$Numeral", "read", "(LLineSorter$Text;II)V"⟩
abbrev m_N_read : XM := (y_N_read, b_N_read, 8, none)
abbrev b_N_wholeLength : ByteArray := prog_4_method_3_code
abbrev y_N_wholeLength : MethodName := ⟨"LineSorter$Numeral", "wholeLength", "()I"⟩
abbrev m_N_wholeLength : XM := (y_N_wholeLength, b_N_wholeLength, 1, (some .int))
abbrev b_O_init : ByteArray := prog_5_method_1_code
abbrev y_O_init : MethodName := ⟨"LineSorter$Order", "<init>", "(LLineSorter$Text;LLineSorter$Places;)V"⟩
abbrev m_O_init : XM := (y_O_init, b_O_init, 4, none)
abbrev b_O_addKey : ByteArray := prog_5_method_2_code
abbrev y_O_addKey : MethodName := ⟨"LineSorter$Order", "addKey", "(LLineSorter$Key;)V"⟩
abbrev m_O_addKey : XM := (y_O_addKey, b_O_addKey, 2, none)
abbrev b_O_keysInUse : ByteArray := prog_5_method_3_code
abbrev y_O_keysInUse : MethodName := ⟨"LineSorter$Order", "keysInUse", "()I"⟩
abbrev m_O_keysInUse : XM := (y_O_keysInUse, b_O_keysInUse, 1, (some .int))
abbrev b_O_keyInUse : ByteArray := prog_5_method_4_code
abbrev y_O_keyInUse : MethodName := ⟨"LineSorter$Order", "keyInUse", "(I)LLineSorter$Key;"⟩
abbrev m_O_keyInUse : XM := (y_O_keyInUse, b_O_keyInUse, 2, (some (.object "LineSorter$Key")))
abbrev b_O_flagsOf : ByteArray := prog_5_method_5_code
abbrev y_O_flagsOf : MethodName := ⟨"LineSorter$Order", "flagsOf", "(LLineSorter$Key;)I"⟩
abbrev m_O_flagsOf : XM := (y_O_flagsOf, b_O_flagsOf, 2, (some .int))
abbrev b_O_comparedNumbersAside : ByteArray := prog_5_method_6_code
abbrev y_O_comparedNumbersAside : MethodName := ⟨"LineSorter$Order", "comparedNumbersAside", "(II)I"⟩
abbrev m_O_comparedNumbersAside : XM := (y_O_comparedNumbersAside, b_O_comparedNumbersAside, 5, (some .int))
abbrev b_O_comparedByKeys : ByteArray := prog_5_method_7_code
abbrev y_O_comparedByKeys : MethodName := ⟨"LineSorter$Order", "comparedByKeys", "(II)I"⟩
abbrev m_O_comparedByKeys : XM := (y_O_comparedByKeys, b_O_comparedByKeys, 12, (some .int))
abbrev b_O_comparedAsNumbers : ByteArray := prog_5_method_8_code
abbrev y_O_comparedAsNumbers : MethodName := ⟨"LineSorter$Order", "comparedAsNumbers", "(IIII)I"⟩
abbrev m_O_comparedAsNumbers : XM := (y_O_comparedAsNumbers, b_O_comparedAsNumbers, 6, (some .int))
abbrev b_P_init : ByteArray := prog_6_method_1_code
abbrev y_P_init : MethodName := ⟨"LineSorter$Places", "<init>", "(LLineSorter$Text;)V"⟩
abbrev m_P_init : XM := (y_P_init, b_P_init, 2, none)
abbrev b_P_beginOf : ByteArray := prog_6_method_2_code
abbrev y_P_beginOf : MethodName := ⟨"LineSorter$Places", "beginOf", "(LLineSorter$Key;II)I"⟩
abbrev m_P_beginOf : XM := (y_P_beginOf, b_P_beginOf, 6, (some .int))
abbrev b_P_endOf : ByteArray := prog_6_method_3_code
abbrev y_P_endOf : MethodName := ⟨"LineSorter$Places", "endOf", "(LLineSorter$Key;II)I"⟩
abbrev m_P_endOf : XM := (y_P_endOf, b_P_endOf, 6, (some .int))
abbrev b_P_fieldStart : ByteArray := prog_6_method_4_code
abbrev y_P_fieldStart : MethodName := ⟨"LineSorter$Places", "fieldStart", "(III)I"⟩
abbrev m_P_fieldStart : XM := (y_P_fieldStart, b_P_fieldStart, 6, (some .int))
abbrev b_P_fieldStop : ByteArray := prog_6_method_5_code
abbrev y_P_fieldStop : MethodName := ⟨"LineSorter$Places", "fieldStop", "(II)I"⟩
abbrev m_P_fieldStop : XM := (y_P_fieldStop, b_P_fieldStop, 5, (some .int))
abbrev b_P_passBlanksOfField : ByteArray := prog_6_method_6_code
abbrev y_P_passBlanksOfField : MethodName := ⟨"LineSorter$Places", "passBlanksOfField", "(II)I"⟩
abbrev m_P_passBlanksOfField : XM := (y_P_passBlanksOfField, b_P_passBlanksOfField, 4, (some .int))
abbrev b_R_init : ByteArray := prog_7_method_1_code
abbrev y_R_init : MethodName := ⟨"LineSorter$Ranking", "<init>", "(LLineSorter$Order;)V"⟩
abbrev m_R_init : XM := (y_R_init, b_R_init, 2, none)
abbrev b_R_rankFirst : ByteArray := prog_7_method_2_code
abbrev y_R_rankFirst : MethodName := ⟨"LineSorter$Ranking", "rankFirst", "(I)V"⟩
abbrev m_R_rankFirst : XM := (y_R_rankFirst, b_R_rankFirst, 6, none)
abbrev b_R_rankOf : ByteArray := prog_7_method_3_code
abbrev y_R_rankOf : MethodName := ⟨"LineSorter$Ranking", "rankOf", "(I)I"⟩
abbrev m_R_rankOf : XM := (y_R_rankOf, b_R_rankOf, 2, (some .int))
abbrev b_R_lineAt : ByteArray := prog_7_method_4_code
abbrev y_R_lineAt : MethodName := ⟨"LineSorter$Ranking", "lineAt", "(I)I"⟩
abbrev m_R_lineAt : XM := (y_R_lineAt, b_R_lineAt, 2, (some .int))
abbrev b_U_init : ByteArray := prog_8_method_1_code
abbrev y_U_init : MethodName := ⟨"LineSorter$Runs", "<init>", "(LLineSorter$Ranking;LLineSorter$Heap;)V"⟩
abbrev m_U_init : XM := (y_U_init, b_U_init, 3, none)
abbrev b_U_makeRuns : ByteArray := prog_8_method_2_code
abbrev y_U_makeRuns : MethodName := ⟨"LineSorter$Runs", "makeRuns", "(II)V"⟩
abbrev m_U_makeRuns : XM := (y_U_makeRuns, b_U_makeRuns, 9, none)
abbrev b_U_addLineToRun : ByteArray := prog_8_method_3_code
abbrev y_U_addLineToRun : MethodName := ⟨"LineSorter$Runs", "addLineToRun", "(I)V"⟩
abbrev m_U_addLineToRun : XM := (y_U_addLineToRun, b_U_addLineToRun, 2, none)
abbrev b_U_countMerges : ByteArray := prog_8_method_4_code
abbrev y_U_countMerges : MethodName := ⟨"LineSorter$Runs", "countMerges", "(I)V"⟩
abbrev m_U_countMerges : XM := (y_U_countMerges, b_U_countMerges, 7, none)
abbrev b_T_init : ByteArray := prog_9_method_1_code
abbrev y_T_init : MethodName := ⟨"LineSorter$Text", "<init>", "()V"⟩
abbrev m_T_init : XM := (y_T_init, b_T_init, 1, none)
abbrev b_T_append : ByteArray := prog_9_method_2_code
abbrev y_T_append : MethodName := ⟨"LineSorter$Text", "append", "(I)V"⟩
abbrev m_T_append : XM := (y_T_append, b_T_append, 4, none)
abbrev b_T_makeRoom : ByteArray := prog_9_method_3_code
abbrev y_T_makeRoom : MethodName := ⟨"LineSorter$Text", "makeRoom", "(I)V"⟩
abbrev m_T_makeRoom : XM := (y_T_makeRoom, b_T_makeRoom, 2, none)
abbrev b_T_keepFirst : ByteArray := prog_9_method_4_code
abbrev y_T_keepFirst : MethodName := ⟨"LineSorter$Text", "keepFirst", "(I)V"⟩
abbrev m_T_keepFirst : XM := (y_T_keepFirst, b_T_keepFirst, 2, none)
abbrev b_T_lineCount : ByteArray := prog_9_method_5_code
abbrev y_T_lineCount : MethodName := ⟨"LineSorter$Text", "lineCount", "()I"⟩
abbrev m_T_lineCount : XM := (y_T_lineCount, b_T_lineCount, 1, (some .int))
abbrev b_T_startOf : ByteArray := prog_9_method_6_code
abbrev y_T_startOf : MethodName := ⟨"LineSorter$Text", "startOf", "(I)I"⟩
abbrev m_T_startOf : XM := (y_T_startOf, b_T_startOf, 2, (some .int))
abbrev b_T_stopOf : ByteArray := prog_9_method_7_code
abbrev y_T_stopOf : MethodName := ⟨"LineSorter$Text", "stopOf", "(I)I"⟩
abbrev m_T_stopOf : XM := (y_T_stopOf, b_T_stopOf, 2, (some .int))
abbrev b_T_at : ByteArray := prog_9_method_8_code
abbrev y_T_at : MethodName := ⟨"LineSorter$Text", "at", "(I)I"⟩
abbrev m_T_at : XM := (y_T_at, b_T_at, 2, (some .int))
abbrev b_T_isBlankAt : ByteArray := prog_9_method_9_code
abbrev y_T_isBlankAt : MethodName := ⟨"LineSorter$Text", "isBlankAt", "(I)Z"⟩
abbrev m_T_isBlankAt : XM := (y_T_isBlankAt, b_T_isBlankAt, 2, (some .boolean))
abbrev b_T_passDigits : ByteArray := prog_9_method_10_code
abbrev y_T_passDigits : MethodName := ⟨"LineSorter$Text", "passDigits", "(II)I"⟩
abbrev m_T_passDigits : XM := (y_T_passDigits, b_T_passDigits, 4, (some .int))
abbrev b_T_comparedBytes : ByteArray := prog_9_method_11_code
abbrev y_T_comparedBytes : MethodName := ⟨"LineSorter$Text", "comparedBytes", "(IIIII)I"⟩
abbrev m_T_comparedBytes : XM := (y_T_comparedBytes, b_T_comparedBytes, 10, (some .int))
abbrev b_T_weightOf : ByteArray := prog_9_method_12_code
abbrev y_T_weightOf : MethodName := ⟨"LineSorter$Text", "weightOf", "(II)I"⟩
abbrev m_T_weightOf : XM := (y_T_weightOf, b_T_weightOf, 6, (some .int))
abbrev b_L_feed : ByteArray := method_3_code
abbrev y_L_feed : MethodName := ⟨"LineSorterLaw", "feed", "(LLineSorter;IIIII[J)I"⟩
abbrev m_L_feed : XM := (y_L_feed, b_L_feed, 8, (some .int))
abbrev b_L_end : ByteArray := method_4_code
abbrev y_L_end : MethodName := ⟨"LineSorterLaw", "end", "(LLineSorter;I)I"⟩
abbrev m_L_end : XM := (y_L_end, b_L_end, 3, (some .int))
abbrev b_L_ways : ByteArray := method_5_code
abbrev y_L_ways : MethodName := ⟨"LineSorterLaw", "ways", "(LLineSorter;IZZ)I"⟩
abbrev m_L_ways : XM := (y_L_ways, b_L_ways, 5, (some .int))
abbrev b_L_separator : ByteArray := method_6_code
abbrev y_L_separator : MethodName := ⟨"LineSorterLaw", "separator", "(LLineSorter;I)I"⟩
abbrev m_L_separator : XM := (y_L_separator, b_L_separator, 3, (some .int))
abbrev b_L_key : ByteArray := method_7_code
abbrev y_L_key : MethodName := ⟨"LineSorterLaw", "key", "(LLineSorter;IIIII[J)I"⟩
abbrev m_L_key : XM := (y_L_key, b_L_key, 8, (some .int))
abbrev b_L_memory : ByteArray := method_8_code
abbrev y_L_memory : MethodName := ⟨"LineSorterLaw", "memory", "(LLineSorter;II)I"⟩
abbrev m_L_memory : XM := (y_L_memory, b_L_memory, 4, (some .int))
abbrev b_L_place : ByteArray := method_9_code
abbrev y_L_place : MethodName := ⟨"LineSorterLaw", "place", "(LLineSorter;IIZ[J)I"⟩
abbrev m_L_place : XM := (y_L_place, b_L_place, 6, (some .int))
abbrev b_L_compare : ByteArray := method_10_code
abbrev y_L_compare : MethodName := ⟨"LineSorterLaw", "compare", "(LLineSorter;II[J)I"⟩
abbrev m_L_compare : XM := (y_L_compare, b_L_compare, 5, (some .int))
abbrev b_L_sort : ByteArray := method_11_code
abbrev y_L_sort : MethodName := ⟨"LineSorterLaw", "sort", "(LLineSorter;[J)I"⟩
abbrev m_L_sort : XM := (y_L_sort, b_L_sort, 3, (some .int))
abbrev b_L_merge : ByteArray := method_12_code
abbrev y_L_merge : MethodName := ⟨"LineSorterLaw", "merge", "(LLineSorter;I[J)I"⟩
abbrev m_L_merge : XM := (y_L_merge, b_L_merge, 4, (some .int))
abbrev b_L_about : ByteArray := method_13_code
abbrev y_L_about : MethodName := ⟨"LineSorterLaw", "about", "(LLineSorter;I[J)I"⟩
abbrev m_L_about : XM := (y_L_about, b_L_about, 4, (some .int))
abbrev b_J_compare : ByteArray := prog_17_method_40_code
abbrev y_J_compare : MethodName := ⟨"java/lang/Integer", "compare", "(II)I"⟩
abbrev m_J_compare : XM := (y_J_compare, b_J_compare, 2, (some .int))
abbrev b_J_copyB : ByteArray := prog_24_method_121_code
abbrev y_J_copyB : MethodName := ⟨"java/util/Arrays", "copyOf", "([BI)[B"⟩
abbrev m_J_copyB : XM := (y_J_copyB, b_J_copyB, 3, (some (.array .byte)))
abbrev b_J_copyI : ByteArray := prog_24_method_123_code
abbrev y_J_copyI : MethodName := ⟨"java/util/Arrays", "copyOf", "([II)[I"⟩
abbrev m_J_copyI : XM := (y_J_copyI, b_J_copyI, 3, (some (.array .int)))
def fd_S : u_T := fun k => match k with
  | 0 => (cn_S, "text", "LLineSorter$Text;", true)
  | 1 => (cn_S, "places", "LLineSorter$Places;", true)
  | 2 => (cn_S, "order", "LLineSorter$Order;", true)
  | 3 => (cn_S, "ranking", "LLineSorter$Ranking;", true)
  | 4 => (cn_S, "heap", "LLineSorter$Heap;", true)
  | 5 => (cn_S, "runs", "LLineSorter$Runs;", true)
  | 6 => (cn_S, "resultLines", "[I", true)
  | 7 => (cn_S, "resultCount", "I", false)
  | 8 => (cn_S, "linesInMemory", "I", false)
  | _ => (cn_S, "runsAtATime", "I", false)
def tf_S : Nat → FieldType := fun k => match k with
  | 0 => (.object "LineSorter$Text")
  | 1 => (.object "LineSorter$Places")
  | 2 => (.object "LineSorter$Order")
  | 3 => (.object "LineSorter$Ranking")
  | 4 => (.object "LineSorter$Heap")
  | 5 => (.object "LineSorter$Runs")
  | 6 => (.array .int)
  | 7 => .int
  | 8 => .int
  | _ => .int
def fd_T : u_T := fun k => match k with
  | 0 => (cn_T, "bytes", "[B", false)
  | 1 => (cn_T, "length", "I", false)
  | 2 => (cn_T, "breaks", "[I", false)
  | _ => (cn_T, "breakCount", "I", false)
def tf_T : Nat → FieldType := fun k => match k with
  | 0 => (.array .byte)
  | 1 => .int
  | 2 => (.array .int)
  | _ => .int
def fd_P : u_T := fun k => match k with
  | 0 => (cn_P, "text", "LLineSorter$Text;", true)
  | _ => (cn_P, "fieldSeparator", "I", false)
def tf_P : Nat → FieldType := fun k => match k with
  | 0 => (.object "LineSorter$Text")
  | _ => .int
def fd_O : u_T := fun k => match k with
  | 0 => (cn_O, "text", "LLineSorter$Text;", true)
  | 1 => (cn_O, "places", "LLineSorter$Places;", true)
  | 2 => (cn_O, "keys", "[LLineSorter$Key;", true)
  | 3 => (cn_O, "wholeLine", "LLineSorter$Key;", true)
  | 4 => (cn_O, "left", "LLineSorter$Numeral;", true)
  | 5 => (cn_O, "right", "LLineSorter$Numeral;", true)
  | 6 => (cn_O, "keyCount", "I", false)
  | 7 => (cn_O, "allsFlags", "I", false)
  | 8 => (cn_O, "isStable", "Z", false)
  | _ => (cn_O, "isOnce", "Z", false)
def tf_O : Nat → FieldType := fun k => match k with
  | 0 => (.object "LineSorter$Text")
  | 1 => (.object "LineSorter$Places")
  | 2 => (.array (.object "LineSorter$Key"))
  | 3 => (.object "LineSorter$Key")
  | 4 => (.object "LineSorter$Numeral")
  | 5 => (.object "LineSorter$Numeral")
  | 6 => .int
  | 7 => .int
  | 8 => .boolean
  | _ => .boolean
def fd_K : u_T := fun k => match k with
  | 0 => (cn_K, "firstField", "I", true)
  | 1 => (cn_K, "firstCharacter", "I", true)
  | 2 => (cn_K, "lastField", "I", true)
  | 3 => (cn_K, "lastCharacter", "I", true)
  | _ => (cn_K, "ownFlags", "I", true)
def tf_K : Nat → FieldType := fun k => match k with
  | 0 => .int
  | 1 => .int
  | 2 => .int
  | 3 => .int
  | _ => .int
def fd_N : u_T := fun k => match k with
  | 0 => (cn_N, "sign", "I", false)
  | 1 => (cn_N, "whole", "I", false)
  | 2 => (cn_N, "wholeStop", "I", false)
  | 3 => (cn_N, "fraction", "I", false)
  | _ => (cn_N, "fractionStop", "I", false)
def tf_N : Nat → FieldType := fun k => match k with
  | 0 => .int
  | 1 => .int
  | 2 => .int
  | 3 => .int
  | _ => .int
def fd_R : u_T := fun k => match k with
  | 0 => (cn_R, "order", "LLineSorter$Order;", true)
  | 1 => (cn_R, "ranks", "[I", true)
  | _ => (cn_R, "ranked", "[I", true)
def tf_R : Nat → FieldType := fun k => match k with
  | 0 => (.object "LineSorter$Order")
  | 1 => (.array .int)
  | _ => (.array .int)
def fd_H : u_T := fun k => match k with
  | 0 => (cn_H, "numbers", "[I", true)
  | _ => (cn_H, "count", "I", false)
def tf_H : Nat → FieldType := fun k => match k with
  | 0 => (.array .int)
  | _ => .int
def fd_U : u_T := fun k => match k with
  | 0 => (cn_U, "ranking", "LLineSorter$Ranking;", true)
  | 1 => (cn_U, "heap", "LLineSorter$Heap;", true)
  | 2 => (cn_U, "lengths", "[I", true)
  | 3 => (cn_U, "queue", "[I", true)
  | 4 => (cn_U, "runCount", "I", false)
  | 5 => (cn_U, "mergeCount", "I", false)
  | 6 => (cn_U, "linesMoved", "I", false)
  | _ => (cn_U, "linesDropped", "I", false)
def tf_U : Nat → FieldType := fun k => match k with
  | 0 => (.object "LineSorter$Ranking")
  | 1 => (.object "LineSorter$Heap")
  | 2 => (.array .int)
  | 3 => (.array .int)
  | 4 => .int
  | 5 => .int
  | 6 => .int
  | _ => .int
def fd_M : u_T := fun k => match k with
  | 0 => (cn_M, "text", "[B", true)
  | 1 => (cn_M, "length", "I", false)
  | 2 => (cn_M, "starts", "[I", true)
  | 3 => (cn_M, "lines", "I", false)
  | 4 => (cn_M, "split", "Z", false)
  | 5 => (cn_M, "all", "I", false)
  | 6 => (cn_M, "stable", "Z", false)
  | 7 => (cn_M, "once", "Z", false)
  | 8 => (cn_M, "separator", "I", false)
  | 9 => (cn_M, "keys", "[I", true)
  | 10 => (cn_M, "keyCount", "I", false)
  | 11 => (cn_M, "memory", "I", false)
  | 12 => (cn_M, "ways", "I", false)
  | 13 => (cn_M, "begins", "[I", true)
  | 14 => (cn_M, "ends", "[I", true)
  | 15 => (cn_M, "held", "Z", false)
  | 16 => (cn_M, "result", "[I", true)
  | 17 => (cn_M, "results", "I", false)
  | 18 => (cn_M, "rows", "[I", true)
  | 19 => (cn_M, "sizes", "[I", true)
  | 20 => (cn_M, "other", "[I", true)
  | 21 => (cn_M, "runs", "I", false)
  | 22 => (cn_M, "made", "[I", true)
  | 23 => (cn_M, "madeCount", "I", false)
  | 24 => (cn_M, "merges", "I", false)
  | 25 => (cn_M, "moved", "I", false)
  | 26 => (cn_M, "gone", "I", false)
  | 27 => (cn_M, "inMemory", "[I", true)
  | 28 => (cn_M, "fieldAt", "I", false)
  | 29 => (cn_M, "fieldEnd", "I", false)
  | 30 => (cn_M, "thrown", "I", false)
  | _ => (cn_M, "taken", "[I", true)
def tf_M : Nat → FieldType := fun k => match k with
  | 0 => (.array .byte)
  | 1 => .int
  | 2 => (.array .int)
  | 3 => .int
  | 4 => .boolean
  | 5 => .int
  | 6 => .boolean
  | 7 => .boolean
  | 8 => .int
  | 9 => (.array .int)
  | 10 => .int
  | 11 => .int
  | 12 => .int
  | 13 => (.array .int)
  | 14 => (.array .int)
  | 15 => .boolean
  | 16 => (.array .int)
  | 17 => .int
  | 18 => (.array .int)
  | 19 => (.array .int)
  | 20 => (.array .int)
  | 21 => .int
  | 22 => (.array .int)
  | 23 => .int
  | 24 => .int
  | 25 => .int
  | 26 => .int
  | 27 => (.array .int)
  | 28 => .int
  | 29 => .int
  | 30 => .int
  | _ => (.array .int)
abbrev xc_cl : List vw_C := [(cn_S, fd_S, 10), (cn_T, fd_T, 4), (cn_P, fd_P, 2), (cn_O, fd_O, 10), (cn_K, fd_K, 5), (cn_N, fd_N, 5), (cn_R, fd_R, 3), (cn_H, fd_H, 2), (cn_U, fd_U, 8), (cn_M, fd_M, 32)]
def xw_s : List (String × Nat × String) := [("LineSorter", 78, "the text would have more than 20000 bytes"), ("LineSorter", 93, "the text has not so many bytes"), ("LineSorter", 99, "flags are 0 to 127"), ("LineSorter", 111, "a separator is NONE or a byte, not 10"), ("LineSorter", 116, "a number of the key is not as it may be"), ("LineSorter", 123, "there are 6 keys"), ("LineSorter", 135, "memory is 2 to 500 lines, and 2 to 16 runs are merged"), ("LineSorter", 150, "there is no such line or key"), ("LineSorter", 172, "there is no such line"), ("LineSorter", 178, "there are more than 1000 lines"), ("LineSorter", 202, "a piece has one line or more"), ("LineSorter", 234, "nothing is told about this")]
end
section
theorem dd_S_init_0 : decode b_S_init 0 = .ok (.aload_n 0, 1) := by decide +kernel
theorem dd_S_init_1 : decode b_S_init 1 = .ok (.invokespecial 1, 3) := by decide +kernel
theorem dd_S_init_4 : decode b_S_init 4 = .ok (.aload_n 0, 1) := by decide +kernel
theorem dd_S_init_5 : decode b_S_init 5 = .ok (.new 7, 3) := by decide +kernel
theorem dd_S_init_8 : decode b_S_init 8 = .ok (.dup, 1) := by decide +kernel
theorem dd_S_init_9 : decode b_S_init 9 = .ok (.invokespecial 9, 3) := by decide +kernel
theorem dd_S_init_12 : decode b_S_init 12 = .ok (.putfield 10, 3) := by decide +kernel
theorem dd_S_init_15 : decode b_S_init 15 = .ok (.aload_n 0, 1) := by decide +kernel
theorem dd_S_init_16 : decode b_S_init 16 = .ok (.new 16, 3) := by decide +kernel
theorem dd_S_init_19 : decode b_S_init 19 = .ok (.dup, 1) := by decide +kernel
theorem dd_S_init_20 : decode b_S_init 20 = .ok (.aload_n 0, 1) := by decide +kernel
theorem dd_S_init_21 : decode b_S_init 21 = .ok (.getfield 10, 3) := by decide +kernel
theorem dd_S_init_24 : decode b_S_init 24 = .ok (.invokespecial 18, 3) := by decide +kernel
theorem dd_S_init_27 : decode b_S_init 27 = .ok (.putfield 21, 3) := by decide +kernel
theorem dd_S_init_30 : decode b_S_init 30 = .ok (.aload_n 0, 1) := by decide +kernel
theorem dd_S_init_31 : decode b_S_init 31 = .ok (.new 25, 3) := by decide +kernel
theorem dd_S_init_34 : decode b_S_init 34 = .ok (.dup, 1) := by decide +kernel
theorem dd_S_init_35 : decode b_S_init 35 = .ok (.aload_n 0, 1) := by decide +kernel
theorem dd_S_init_36 : decode b_S_init 36 = .ok (.getfield 10, 3) := by decide +kernel
theorem dd_S_init_39 : decode b_S_init 39 = .ok (.aload_n 0, 1) := by decide +kernel
theorem dd_S_init_40 : decode b_S_init 40 = .ok (.getfield 21, 3) := by decide +kernel
theorem dd_S_init_43 : decode b_S_init 43 = .ok (.invokespecial 27, 3) := by decide +kernel
theorem dd_S_init_46 : decode b_S_init 46 = .ok (.putfield 30, 3) := by decide +kernel
theorem dd_S_init_49 : decode b_S_init 49 = .ok (.aload_n 0, 1) := by decide +kernel
theorem dd_S_init_50 : decode b_S_init 50 = .ok (.new 34, 3) := by decide +kernel
theorem dd_S_init_53 : decode b_S_init 53 = .ok (.dup, 1) := by decide +kernel
theorem dd_S_init_54 : decode b_S_init 54 = .ok (.aload_n 0, 1) := by decide +kernel
theorem dd_S_init_55 : decode b_S_init 55 = .ok (.getfield 30, 3) := by decide +kernel
theorem dd_S_init_58 : decode b_S_init 58 = .ok (.invokespecial 36, 3) := by decide +kernel
theorem dd_S_init_61 : decode b_S_init 61 = .ok (.putfield 39, 3) := by decide +kernel
theorem dd_S_init_64 : decode b_S_init 64 = .ok (.aload_n 0, 1) := by decide +kernel
theorem dd_S_init_65 : decode b_S_init 65 = .ok (.new 43, 3) := by decide +kernel
theorem dd_S_init_68 : decode b_S_init 68 = .ok (.dup, 1) := by decide +kernel
theorem dd_S_init_69 : decode b_S_init 69 = .ok (.invokespecial 45, 3) := by decide +kernel
theorem dd_S_init_72 : decode b_S_init 72 = .ok (.putfield 46, 3) := by decide +kernel
theorem dd_S_init_75 : decode b_S_init 75 = .ok (.aload_n 0, 1) := by decide +kernel
theorem dd_S_init_76 : decode b_S_init 76 = .ok (.new 50, 3) := by decide +kernel
theorem dd_S_init_79 : decode b_S_init 79 = .ok (.dup, 1) := by decide +kernel
theorem dd_S_init_80 : decode b_S_init 80 = .ok (.aload_n 0, 1) := by decide +kernel
theorem dd_S_init_81 : decode b_S_init 81 = .ok (.getfield 39, 3) := by decide +kernel
theorem dd_S_init_84 : decode b_S_init 84 = .ok (.aload_n 0, 1) := by decide +kernel
theorem dd_S_init_85 : decode b_S_init 85 = .ok (.getfield 46, 3) := by decide +kernel
theorem dd_S_init_88 : decode b_S_init 88 = .ok (.invokespecial 52, 3) := by decide +kernel
theorem dd_S_init_91 : decode b_S_init 91 = .ok (.putfield 55, 3) := by decide +kernel
theorem dd_S_init_94 : decode b_S_init 94 = .ok (.aload_n 0, 1) := by decide +kernel
theorem dd_S_init_95 : decode b_S_init 95 = .ok (.sipush 1000, 3) := by decide +kernel
theorem dd_S_init_98 : decode b_S_init 98 = .ok (.newarray .int, 2) := by decide +kernel
theorem dd_S_init_100 : decode b_S_init 100 = .ok (.putfield 59, 3) := by decide +kernel
theorem dd_S_init_103 : decode b_S_init 103 = .ok (.aload_n 0, 1) := by decide +kernel
theorem dd_S_init_104 : decode b_S_init 104 = .ok (.iconst 0, 1) := by decide +kernel
theorem dd_S_init_105 : decode b_S_init 105 = .ok (.putfield 63, 3) := by decide +kernel
theorem dd_S_init_108 : decode b_S_init 108 = .ok (.aload_n 0, 1) := by decide +kernel
theorem dd_S_init_109 : decode b_S_init 109 = .ok (.bipush 100, 2) := by decide +kernel
theorem dd_S_init_111 : decode b_S_init 111 = .ok (.putfield 67, 3) := by decide +kernel
theorem dd_S_init_114 : decode b_S_init 114 = .ok (.aload_n 0, 1) := by decide +kernel
theorem dd_S_init_115 : decode b_S_init 115 = .ok (.iconst 4, 1) := by decide +kernel
theorem dd_S_init_116 : decode b_S_init 116 = .ok (.putfield 70, 3) := by decide +kernel
theorem dd_S_init_119 : decode b_S_init 119 = .ok (.return_, 1) := by decide +kernel
theorem dd_S_feed_0 : decode b_S_feed 0 = .ok (.aload_n 0, 1) := by decide +kernel
theorem dd_S_feed_1 : decode b_S_feed 1 = .ok (.getfield 10, 3) := by decide +kernel
theorem dd_S_feed_4 : decode b_S_feed 4 = .ok (.getfield 73, 3) := by decide +kernel
theorem dd_S_feed_7 : decode b_S_feed 7 = .ok (.bipush 20, 2) := by decide +kernel
theorem dd_S_feed_9 : decode b_S_feed 9 = .ok (.iadd, 1) := by decide +kernel
theorem dd_S_feed_10 : decode b_S_feed 10 = .ok (.sipush 20000, 3) := by decide +kernel
theorem dd_S_feed_13 : decode b_S_feed 13 = .ok (.if_icmp .le 13, 3) := by decide +kernel
theorem dd_S_feed_16 : decode b_S_feed 16 = .ok (.new 76, 3) := by decide +kernel
theorem dd_S_feed_19 : decode b_S_feed 19 = .ok (.dup, 1) := by decide +kernel
theorem dd_S_feed_20 : decode b_S_feed 20 = .ok (.ldc 78, 2) := by decide +kernel
theorem dd_S_feed_22 : decode b_S_feed 22 = .ok (.invokespecial 80, 3) := by decide +kernel
theorem dd_S_feed_25 : decode b_S_feed 25 = .ok (.athrow, 1) := by decide +kernel
theorem dd_S_feed_26 : decode b_S_feed 26 = .ok (.aload_n 0, 1) := by decide +kernel
theorem dd_S_feed_27 : decode b_S_feed 27 = .ok (.getfield 10, 3) := by decide +kernel
theorem dd_S_feed_30 : decode b_S_feed 30 = .ok (.iload_n 1, 1) := by decide +kernel
theorem dd_S_feed_31 : decode b_S_feed 31 = .ok (.invokevirtual 83, 3) := by decide +kernel
theorem dd_S_feed_34 : decode b_S_feed 34 = .ok (.aload_n 0, 1) := by decide +kernel
theorem dd_S_feed_35 : decode b_S_feed 35 = .ok (.getfield 10, 3) := by decide +kernel
theorem dd_S_feed_38 : decode b_S_feed 38 = .ok (.iload_n 2, 1) := by decide +kernel
theorem dd_S_feed_39 : decode b_S_feed 39 = .ok (.invokevirtual 83, 3) := by decide +kernel
theorem dd_S_feed_42 : decode b_S_feed 42 = .ok (.aload_n 0, 1) := by decide +kernel
theorem dd_S_feed_43 : decode b_S_feed 43 = .ok (.getfield 10, 3) := by decide +kernel
theorem dd_S_feed_46 : decode b_S_feed 46 = .ok (.iload_n 3, 1) := by decide +kernel
theorem dd_S_feed_47 : decode b_S_feed 47 = .ok (.invokevirtual 83, 3) := by decide +kernel
theorem dd_S_feed_50 : decode b_S_feed 50 = .ok (.aload_n 0, 1) := by decide +kernel
theorem dd_S_feed_51 : decode b_S_feed 51 = .ok (.getfield 10, 3) := by decide +kernel
theorem dd_S_feed_54 : decode b_S_feed 54 = .ok (.iload 4, 2) := by decide +kernel
theorem dd_S_feed_56 : decode b_S_feed 56 = .ok (.invokevirtual 83, 3) := by decide +kernel
theorem dd_S_feed_59 : decode b_S_feed 59 = .ok (.aload_n 0, 1) := by decide +kernel
theorem dd_S_feed_60 : decode b_S_feed 60 = .ok (.getfield 10, 3) := by decide +kernel
theorem dd_S_feed_63 : decode b_S_feed 63 = .ok (.iload 5, 2) := by decide +kernel
theorem dd_S_feed_65 : decode b_S_feed 65 = .ok (.invokevirtual 83, 3) := by decide +kernel
theorem dd_S_feed_68 : decode b_S_feed 68 = .ok (.aload_n 0, 1) := by decide +kernel
theorem dd_S_feed_69 : decode b_S_feed 69 = .ok (.iconst 0, 1) := by decide +kernel
theorem dd_S_feed_70 : decode b_S_feed 70 = .ok (.putfield 63, 3) := by decide +kernel
theorem dd_S_feed_73 : decode b_S_feed 73 = .ok (.aload_n 0, 1) := by decide +kernel
theorem dd_S_feed_74 : decode b_S_feed 74 = .ok (.getfield 10, 3) := by decide +kernel
theorem dd_S_feed_77 : decode b_S_feed 77 = .ok (.getfield 73, 3) := by decide +kernel
theorem dd_S_feed_80 : decode b_S_feed 80 = .ok (.ireturn, 1) := by decide +kernel
theorem dd_S_end_0 : decode b_S_end 0 = .ok (.iload_n 1, 1) := by decide +kernel
theorem dd_S_end_1 : decode b_S_end 1 = .ok (.iconst 0, 1) := by decide +kernel
theorem dd_S_end_2 : decode b_S_end 2 = .ok (.aload_n 0, 1) := by decide +kernel
theorem dd_S_end_3 : decode b_S_end 3 = .ok (.getfield 10, 3) := by decide +kernel
theorem dd_S_end_6 : decode b_S_end 6 = .ok (.getfield 73, 3) := by decide +kernel
theorem dd_S_end_9 : decode b_S_end 9 = .ok (.invokestatic 87, 3) := by decide +kernel
theorem dd_S_end_12 : decode b_S_end 12 = .ok (.ifCond .ne 13, 3) := by decide +kernel
theorem dd_S_end_15 : decode b_S_end 15 = .ok (.new 91, 3) := by decide +kernel
theorem dd_S_end_18 : decode b_S_end 18 = .ok (.dup, 1) := by decide +kernel
theorem dd_S_end_19 : decode b_S_end 19 = .ok (.ldc 93, 2) := by decide +kernel
theorem dd_S_end_21 : decode b_S_end 21 = .ok (.invokespecial 95, 3) := by decide +kernel
theorem dd_S_end_24 : decode b_S_end 24 = .ok (.athrow, 1) := by decide +kernel
theorem dd_S_end_25 : decode b_S_end 25 = .ok (.aload_n 0, 1) := by decide +kernel
theorem dd_S_end_26 : decode b_S_end 26 = .ok (.getfield 10, 3) := by decide +kernel
theorem dd_S_end_29 : decode b_S_end 29 = .ok (.iload_n 1, 1) := by decide +kernel
theorem dd_S_end_30 : decode b_S_end 30 = .ok (.invokevirtual 96, 3) := by decide +kernel
theorem dd_S_end_33 : decode b_S_end 33 = .ok (.aload_n 0, 1) := by decide +kernel
theorem dd_S_end_34 : decode b_S_end 34 = .ok (.iconst 0, 1) := by decide +kernel
theorem dd_S_end_35 : decode b_S_end 35 = .ok (.putfield 63, 3) := by decide +kernel
theorem dd_S_end_38 : decode b_S_end 38 = .ok (.return_, 1) := by decide +kernel
theorem dd_S_ways_0 : decode b_S_ways 0 = .ok (.iload_n 1, 1) := by decide +kernel
theorem dd_S_ways_1 : decode b_S_ways 1 = .ok (.iconst 0, 1) := by decide +kernel
theorem dd_S_ways_2 : decode b_S_ways 2 = .ok (.bipush 127, 2) := by decide +kernel
theorem dd_S_ways_4 : decode b_S_ways 4 = .ok (.invokestatic 87, 3) := by decide +kernel
theorem dd_S_ways_7 : decode b_S_ways 7 = .ok (.ifCond .ne 13, 3) := by decide +kernel
theorem dd_S_ways_10 : decode b_S_ways 10 = .ok (.new 91, 3) := by decide +kernel
theorem dd_S_ways_13 : decode b_S_ways 13 = .ok (.dup, 1) := by decide +kernel
theorem dd_S_ways_14 : decode b_S_ways 14 = .ok (.ldc 99, 2) := by decide +kernel
theorem dd_S_ways_16 : decode b_S_ways 16 = .ok (.invokespecial 95, 3) := by decide +kernel
theorem dd_S_ways_19 : decode b_S_ways 19 = .ok (.athrow, 1) := by decide +kernel
theorem dd_S_ways_20 : decode b_S_ways 20 = .ok (.aload_n 0, 1) := by decide +kernel
theorem dd_S_ways_21 : decode b_S_ways 21 = .ok (.getfield 30, 3) := by decide +kernel
theorem dd_S_ways_24 : decode b_S_ways 24 = .ok (.iload_n 1, 1) := by decide +kernel
theorem dd_S_ways_25 : decode b_S_ways 25 = .ok (.putfield 101, 3) := by decide +kernel
theorem dd_S_ways_28 : decode b_S_ways 28 = .ok (.aload_n 0, 1) := by decide +kernel
theorem dd_S_ways_29 : decode b_S_ways 29 = .ok (.getfield 30, 3) := by decide +kernel
theorem dd_S_ways_32 : decode b_S_ways 32 = .ok (.iload_n 2, 1) := by decide +kernel
theorem dd_S_ways_33 : decode b_S_ways 33 = .ok (.putfield 104, 3) := by decide +kernel
theorem dd_S_ways_36 : decode b_S_ways 36 = .ok (.aload_n 0, 1) := by decide +kernel
theorem dd_S_ways_37 : decode b_S_ways 37 = .ok (.getfield 30, 3) := by decide +kernel
theorem dd_S_ways_40 : decode b_S_ways 40 = .ok (.iload_n 3, 1) := by decide +kernel
theorem dd_S_ways_41 : decode b_S_ways 41 = .ok (.putfield 108, 3) := by decide +kernel
theorem dd_S_ways_44 : decode b_S_ways 44 = .ok (.return_, 1) := by decide +kernel
theorem dd_S_separator_0 : decode b_S_separator 0 = .ok (.iload_n 1, 1) := by decide +kernel
theorem dd_S_separator_1 : decode b_S_separator 1 = .ok (.iconst (-1), 1) := by decide +kernel
theorem dd_S_separator_2 : decode b_S_separator 2 = .ok (.sipush 255, 3) := by decide +kernel
theorem dd_S_separator_5 : decode b_S_separator 5 = .ok (.invokestatic 87, 3) := by decide +kernel
theorem dd_S_separator_8 : decode b_S_separator 8 = .ok (.ifCond .eq 9, 3) := by decide +kernel
theorem dd_S_separator_11 : decode b_S_separator 11 = .ok (.iload_n 1, 1) := by decide +kernel
theorem dd_S_separator_12 : decode b_S_separator 12 = .ok (.bipush 10, 2) := by decide +kernel
theorem dd_S_separator_14 : decode b_S_separator 14 = .ok (.if_icmp .ne 13, 3) := by decide +kernel
theorem dd_S_separator_17 : decode b_S_separator 17 = .ok (.new 91, 3) := by decide +kernel
theorem dd_S_separator_20 : decode b_S_separator 20 = .ok (.dup, 1) := by decide +kernel
theorem dd_S_separator_21 : decode b_S_separator 21 = .ok (.ldc 111, 2) := by decide +kernel
theorem dd_S_separator_23 : decode b_S_separator 23 = .ok (.invokespecial 95, 3) := by decide +kernel
theorem dd_S_separator_26 : decode b_S_separator 26 = .ok (.athrow, 1) := by decide +kernel
theorem dd_S_separator_27 : decode b_S_separator 27 = .ok (.aload_n 0, 1) := by decide +kernel
theorem dd_S_separator_28 : decode b_S_separator 28 = .ok (.getfield 21, 3) := by decide +kernel
theorem dd_S_separator_31 : decode b_S_separator 31 = .ok (.iload_n 1, 1) := by decide +kernel
theorem dd_S_separator_32 : decode b_S_separator 32 = .ok (.putfield 113, 3) := by decide +kernel
theorem dd_S_separator_35 : decode b_S_separator 35 = .ok (.return_, 1) := by decide +kernel
theorem dd_S_key_0 : decode b_S_key 0 = .ok (.iload_n 1, 1) := by decide +kernel
theorem dd_S_key_1 : decode b_S_key 1 = .ok (.iconst 1, 1) := by decide +kernel
theorem dd_S_key_2 : decode b_S_key 2 = .ok (.sipush 1000, 3) := by decide +kernel
theorem dd_S_key_5 : decode b_S_key 5 = .ok (.invokestatic 87, 3) := by decide +kernel
theorem dd_S_key_8 : decode b_S_key 8 = .ok (.ifCond .eq 18, 3) := by decide +kernel
theorem dd_S_key_11 : decode b_S_key 11 = .ok (.iload_n 2, 1) := by decide +kernel
theorem dd_S_key_12 : decode b_S_key 12 = .ok (.iconst 1, 1) := by decide +kernel
theorem dd_S_key_13 : decode b_S_key 13 = .ok (.sipush 1000, 3) := by decide +kernel
theorem dd_S_key_16 : decode b_S_key 16 = .ok (.invokestatic 87, 3) := by decide +kernel
theorem dd_S_key_19 : decode b_S_key 19 = .ok (.ifCond .eq 7, 3) := by decide +kernel
theorem dd_S_key_22 : decode b_S_key 22 = .ok (.iconst 1, 1) := by decide +kernel
theorem dd_S_key_23 : decode b_S_key 23 = .ok (.goto 4, 3) := by decide +kernel
theorem dd_S_key_26 : decode b_S_key 26 = .ok (.iconst 0, 1) := by decide +kernel
theorem dd_S_key_27 : decode b_S_key 27 = .ok (.istore 6, 2) := by decide +kernel
theorem dd_S_key_29 : decode b_S_key 29 = .ok (.iload_n 3, 1) := by decide +kernel
theorem dd_S_key_30 : decode b_S_key 30 = .ok (.iconst 0, 1) := by decide +kernel
theorem dd_S_key_31 : decode b_S_key 31 = .ok (.sipush 1000, 3) := by decide +kernel
theorem dd_S_key_34 : decode b_S_key 34 = .ok (.invokestatic 87, 3) := by decide +kernel
theorem dd_S_key_37 : decode b_S_key 37 = .ok (.ifCond .eq 19, 3) := by decide +kernel
theorem dd_S_key_40 : decode b_S_key 40 = .ok (.iload 4, 2) := by decide +kernel
theorem dd_S_key_42 : decode b_S_key 42 = .ok (.iconst 0, 1) := by decide +kernel
theorem dd_S_key_43 : decode b_S_key 43 = .ok (.sipush 1000, 3) := by decide +kernel
theorem dd_S_key_46 : decode b_S_key 46 = .ok (.invokestatic 87, 3) := by decide +kernel
theorem dd_S_key_49 : decode b_S_key 49 = .ok (.ifCond .eq 7, 3) := by decide +kernel
theorem dd_S_key_52 : decode b_S_key 52 = .ok (.iconst 1, 1) := by decide +kernel
theorem dd_S_key_53 : decode b_S_key 53 = .ok (.goto 4, 3) := by decide +kernel
theorem dd_S_key_56 : decode b_S_key 56 = .ok (.iconst 0, 1) := by decide +kernel
theorem dd_S_key_57 : decode b_S_key 57 = .ok (.istore 7, 2) := by decide +kernel
theorem dd_S_key_59 : decode b_S_key 59 = .ok (.iload 6, 2) := by decide +kernel
theorem dd_S_key_61 : decode b_S_key 61 = .ok (.ifCond .eq 19, 3) := by decide +kernel
theorem dd_S_key_64 : decode b_S_key 64 = .ok (.iload 7, 2) := by decide +kernel
theorem dd_S_key_66 : decode b_S_key 66 = .ok (.ifCond .eq 14, 3) := by decide +kernel
theorem dd_S_key_69 : decode b_S_key 69 = .ok (.iload 5, 2) := by decide +kernel
theorem dd_S_key_71 : decode b_S_key 71 = .ok (.iconst 0, 1) := by decide +kernel
theorem dd_S_key_72 : decode b_S_key 72 = .ok (.bipush 127, 2) := by decide +kernel
theorem dd_S_key_74 : decode b_S_key 74 = .ok (.invokestatic 87, 3) := by decide +kernel
theorem dd_S_key_77 : decode b_S_key 77 = .ok (.ifCond .ne 13, 3) := by decide +kernel
theorem dd_S_key_80 : decode b_S_key 80 = .ok (.new 91, 3) := by decide +kernel
theorem dd_S_key_83 : decode b_S_key 83 = .ok (.dup, 1) := by decide +kernel
theorem dd_S_key_84 : decode b_S_key 84 = .ok (.ldc 116, 2) := by decide +kernel
theorem dd_S_key_86 : decode b_S_key 86 = .ok (.invokespecial 95, 3) := by decide +kernel
theorem dd_S_key_89 : decode b_S_key 89 = .ok (.athrow, 1) := by decide +kernel
theorem dd_S_key_90 : decode b_S_key 90 = .ok (.aload_n 0, 1) := by decide +kernel
theorem dd_S_key_91 : decode b_S_key 91 = .ok (.getfield 30, 3) := by decide +kernel
theorem dd_S_key_94 : decode b_S_key 94 = .ok (.getfield 118, 3) := by decide +kernel
theorem dd_S_key_97 : decode b_S_key 97 = .ok (.bipush 6, 2) := by decide +kernel
theorem dd_S_key_99 : decode b_S_key 99 = .ok (.if_icmp .lt 13, 3) := by decide +kernel
theorem dd_S_key_102 : decode b_S_key 102 = .ok (.new 121, 3) := by decide +kernel
theorem dd_S_key_105 : decode b_S_key 105 = .ok (.dup, 1) := by decide +kernel
theorem dd_S_key_106 : decode b_S_key 106 = .ok (.ldc 123, 2) := by decide +kernel
theorem dd_S_key_108 : decode b_S_key 108 = .ok (.invokespecial 125, 3) := by decide +kernel
theorem dd_S_key_111 : decode b_S_key 111 = .ok (.athrow, 1) := by decide +kernel
theorem dd_S_key_112 : decode b_S_key 112 = .ok (.aload_n 0, 1) := by decide +kernel
theorem dd_S_key_113 : decode b_S_key 113 = .ok (.getfield 30, 3) := by decide +kernel
theorem dd_S_key_116 : decode b_S_key 116 = .ok (.new 126, 3) := by decide +kernel
theorem dd_S_key_119 : decode b_S_key 119 = .ok (.dup, 1) := by decide +kernel
theorem dd_S_key_120 : decode b_S_key 120 = .ok (.iload_n 1, 1) := by decide +kernel
theorem dd_S_key_121 : decode b_S_key 121 = .ok (.iload_n 2, 1) := by decide +kernel
theorem dd_S_key_122 : decode b_S_key 122 = .ok (.iload_n 3, 1) := by decide +kernel
theorem dd_S_key_123 : decode b_S_key 123 = .ok (.iload 4, 2) := by decide +kernel
theorem dd_S_key_125 : decode b_S_key 125 = .ok (.iload 5, 2) := by decide +kernel
theorem dd_S_key_127 : decode b_S_key 127 = .ok (.invokespecial 128, 3) := by decide +kernel
theorem dd_S_key_130 : decode b_S_key 130 = .ok (.invokevirtual 131, 3) := by decide +kernel
theorem dd_S_key_133 : decode b_S_key 133 = .ok (.aload_n 0, 1) := by decide +kernel
theorem dd_S_key_134 : decode b_S_key 134 = .ok (.getfield 30, 3) := by decide +kernel
theorem dd_S_key_137 : decode b_S_key 137 = .ok (.getfield 118, 3) := by decide +kernel
theorem dd_S_key_140 : decode b_S_key 140 = .ok (.ireturn, 1) := by decide +kernel
theorem dd_S_keyless_0 : decode b_S_keyless 0 = .ok (.aload_n 0, 1) := by decide +kernel
theorem dd_S_keyless_1 : decode b_S_keyless 1 = .ok (.getfield 30, 3) := by decide +kernel
theorem dd_S_keyless_4 : decode b_S_keyless 4 = .ok (.getfield 118, 3) := by decide +kernel
theorem dd_S_keyless_7 : decode b_S_keyless 7 = .ok (.istore_n 1, 1) := by decide +kernel
theorem dd_S_keyless_8 : decode b_S_keyless 8 = .ok (.aload_n 0, 1) := by decide +kernel
theorem dd_S_keyless_9 : decode b_S_keyless 9 = .ok (.getfield 30, 3) := by decide +kernel
theorem dd_S_keyless_12 : decode b_S_keyless 12 = .ok (.iconst 0, 1) := by decide +kernel
theorem dd_S_keyless_13 : decode b_S_keyless 13 = .ok (.putfield 118, 3) := by decide +kernel
theorem dd_S_keyless_16 : decode b_S_keyless 16 = .ok (.iload_n 1, 1) := by decide +kernel
theorem dd_S_keyless_17 : decode b_S_keyless 17 = .ok (.ireturn, 1) := by decide +kernel
theorem dd_S_memory_0 : decode b_S_memory 0 = .ok (.iload_n 1, 1) := by decide +kernel
theorem dd_S_memory_1 : decode b_S_memory 1 = .ok (.iconst 2, 1) := by decide +kernel
theorem dd_S_memory_2 : decode b_S_memory 2 = .ok (.sipush 500, 3) := by decide +kernel
theorem dd_S_memory_5 : decode b_S_memory 5 = .ok (.invokestatic 87, 3) := by decide +kernel
theorem dd_S_memory_8 : decode b_S_memory 8 = .ok (.ifCond .eq 13, 3) := by decide +kernel
theorem dd_S_memory_11 : decode b_S_memory 11 = .ok (.iload_n 2, 1) := by decide +kernel
theorem dd_S_memory_12 : decode b_S_memory 12 = .ok (.iconst 2, 1) := by decide +kernel
theorem dd_S_memory_13 : decode b_S_memory 13 = .ok (.bipush 16, 2) := by decide +kernel
theorem dd_S_memory_15 : decode b_S_memory 15 = .ok (.invokestatic 87, 3) := by decide +kernel
theorem dd_S_memory_18 : decode b_S_memory 18 = .ok (.ifCond .ne 13, 3) := by decide +kernel
theorem dd_S_memory_21 : decode b_S_memory 21 = .ok (.new 91, 3) := by decide +kernel
theorem dd_S_memory_24 : decode b_S_memory 24 = .ok (.dup, 1) := by decide +kernel
theorem dd_S_memory_25 : decode b_S_memory 25 = .ok (.ldc 135, 2) := by decide +kernel
theorem dd_S_memory_27 : decode b_S_memory 27 = .ok (.invokespecial 95, 3) := by decide +kernel
theorem dd_S_memory_30 : decode b_S_memory 30 = .ok (.athrow, 1) := by decide +kernel
theorem dd_S_memory_31 : decode b_S_memory 31 = .ok (.aload_n 0, 1) := by decide +kernel
theorem dd_S_memory_32 : decode b_S_memory 32 = .ok (.iload_n 1, 1) := by decide +kernel
theorem dd_S_memory_33 : decode b_S_memory 33 = .ok (.putfield 67, 3) := by decide +kernel
theorem dd_S_memory_36 : decode b_S_memory 36 = .ok (.aload_n 0, 1) := by decide +kernel
theorem dd_S_memory_37 : decode b_S_memory 37 = .ok (.iload_n 2, 1) := by decide +kernel
theorem dd_S_memory_38 : decode b_S_memory 38 = .ok (.putfield 70, 3) := by decide +kernel
theorem dd_S_memory_41 : decode b_S_memory 41 = .ok (.return_, 1) := by decide +kernel
theorem dd_S_lines_0 : decode b_S_lines 0 = .ok (.aload_n 0, 1) := by decide +kernel
theorem dd_S_lines_1 : decode b_S_lines 1 = .ok (.getfield 10, 3) := by decide +kernel
theorem dd_S_lines_4 : decode b_S_lines 4 = .ok (.invokevirtual 137, 3) := by decide +kernel
theorem dd_S_lines_7 : decode b_S_lines 7 = .ok (.ireturn, 1) := by decide +kernel
theorem dd_S_place_0 : decode b_S_place 0 = .ok (.aload_n 0, 1) := by decide +kernel
theorem dd_S_place_1 : decode b_S_place 1 = .ok (.iload_n 1, 1) := by decide +kernel
theorem dd_S_place_2 : decode b_S_place 2 = .ok (.invokevirtual 141, 3) := by decide +kernel
theorem dd_S_place_5 : decode b_S_place 5 = .ok (.ifCond .eq 20, 3) := by decide +kernel
theorem dd_S_place_8 : decode b_S_place 8 = .ok (.iload_n 2, 1) := by decide +kernel
theorem dd_S_place_9 : decode b_S_place 9 = .ok (.iconst 0, 1) := by decide +kernel
theorem dd_S_place_10 : decode b_S_place 10 = .ok (.aload_n 0, 1) := by decide +kernel
theorem dd_S_place_11 : decode b_S_place 11 = .ok (.getfield 30, 3) := by decide +kernel
theorem dd_S_place_14 : decode b_S_place 14 = .ok (.invokevirtual 145, 3) := by decide +kernel
theorem dd_S_place_17 : decode b_S_place 17 = .ok (.iconst 1, 1) := by decide +kernel
theorem dd_S_place_18 : decode b_S_place 18 = .ok (.isub, 1) := by decide +kernel
theorem dd_S_place_19 : decode b_S_place 19 = .ok (.invokestatic 87, 3) := by decide +kernel
theorem dd_S_place_22 : decode b_S_place 22 = .ok (.ifCond .ne 13, 3) := by decide +kernel
theorem dd_S_place_25 : decode b_S_place 25 = .ok (.new 148, 3) := by decide +kernel
theorem dd_S_place_28 : decode b_S_place 28 = .ok (.dup, 1) := by decide +kernel
theorem dd_S_place_29 : decode b_S_place 29 = .ok (.ldc 150, 2) := by decide +kernel
theorem dd_S_place_31 : decode b_S_place 31 = .ok (.invokespecial 152, 3) := by decide +kernel
theorem dd_S_place_34 : decode b_S_place 34 = .ok (.athrow, 1) := by decide +kernel
theorem dd_S_place_35 : decode b_S_place 35 = .ok (.aload_n 0, 1) := by decide +kernel
theorem dd_S_place_36 : decode b_S_place 36 = .ok (.getfield 30, 3) := by decide +kernel
theorem dd_S_place_39 : decode b_S_place 39 = .ok (.iload_n 2, 1) := by decide +kernel
theorem dd_S_place_40 : decode b_S_place 40 = .ok (.invokevirtual 153, 3) := by decide +kernel
theorem dd_S_place_43 : decode b_S_place 43 = .ok (.astore 4, 2) := by decide +kernel
theorem dd_S_place_45 : decode b_S_place 45 = .ok (.aload_n 0, 1) := by decide +kernel
theorem dd_S_place_46 : decode b_S_place 46 = .ok (.getfield 30, 3) := by decide +kernel
theorem dd_S_place_49 : decode b_S_place 49 = .ok (.aload 4, 2) := by decide +kernel
theorem dd_S_place_51 : decode b_S_place 51 = .ok (.invokevirtual 157, 3) := by decide +kernel
theorem dd_S_place_54 : decode b_S_place 54 = .ok (.istore 5, 2) := by decide +kernel
theorem dd_S_place_56 : decode b_S_place 56 = .ok (.iload_n 3, 1) := by decide +kernel
theorem dd_S_place_57 : decode b_S_place 57 = .ok (.ifCond .eq 18, 3) := by decide +kernel
theorem dd_S_place_60 : decode b_S_place 60 = .ok (.aload_n 0, 1) := by decide +kernel
theorem dd_S_place_61 : decode b_S_place 61 = .ok (.getfield 21, 3) := by decide +kernel
theorem dd_S_place_64 : decode b_S_place 64 = .ok (.aload 4, 2) := by decide +kernel
theorem dd_S_place_66 : decode b_S_place 66 = .ok (.iload 5, 2) := by decide +kernel
theorem dd_S_place_68 : decode b_S_place 68 = .ok (.iload_n 1, 1) := by decide +kernel
theorem dd_S_place_69 : decode b_S_place 69 = .ok (.invokevirtual 161, 3) := by decide +kernel
theorem dd_S_place_72 : decode b_S_place 72 = .ok (.goto 15, 3) := by decide +kernel
theorem dd_S_place_75 : decode b_S_place 75 = .ok (.aload_n 0, 1) := by decide +kernel
theorem dd_S_place_76 : decode b_S_place 76 = .ok (.getfield 21, 3) := by decide +kernel
theorem dd_S_place_79 : decode b_S_place 79 = .ok (.aload 4, 2) := by decide +kernel
theorem dd_S_place_81 : decode b_S_place 81 = .ok (.iload 5, 2) := by decide +kernel
theorem dd_S_place_83 : decode b_S_place 83 = .ok (.iload_n 1, 1) := by decide +kernel
theorem dd_S_place_84 : decode b_S_place 84 = .ok (.invokevirtual 165, 3) := by decide +kernel
theorem dd_S_place_87 : decode b_S_place 87 = .ok (.istore 6, 2) := by decide +kernel
theorem dd_S_place_89 : decode b_S_place 89 = .ok (.iload 6, 2) := by decide +kernel
theorem dd_S_place_91 : decode b_S_place 91 = .ok (.aload_n 0, 1) := by decide +kernel
theorem dd_S_place_92 : decode b_S_place 92 = .ok (.getfield 10, 3) := by decide +kernel
theorem dd_S_place_95 : decode b_S_place 95 = .ok (.iload_n 1, 1) := by decide +kernel
theorem dd_S_place_96 : decode b_S_place 96 = .ok (.invokevirtual 168, 3) := by decide +kernel
theorem dd_S_place_99 : decode b_S_place 99 = .ok (.isub, 1) := by decide +kernel
theorem dd_S_place_100 : decode b_S_place 100 = .ok (.ireturn, 1) := by decide +kernel
theorem dd_S_compare_0 : decode b_S_compare 0 = .ok (.aload_n 0, 1) := by decide +kernel
theorem dd_S_compare_1 : decode b_S_compare 1 = .ok (.iload_n 1, 1) := by decide +kernel
theorem dd_S_compare_2 : decode b_S_compare 2 = .ok (.invokevirtual 141, 3) := by decide +kernel
theorem dd_S_compare_5 : decode b_S_compare 5 = .ok (.ifCond .eq 11, 3) := by decide +kernel
theorem dd_S_compare_8 : decode b_S_compare 8 = .ok (.aload_n 0, 1) := by decide +kernel
theorem dd_S_compare_9 : decode b_S_compare 9 = .ok (.iload_n 2, 1) := by decide +kernel
theorem dd_S_compare_10 : decode b_S_compare 10 = .ok (.invokevirtual 141, 3) := by decide +kernel
theorem dd_S_compare_13 : decode b_S_compare 13 = .ok (.ifCond .ne 13, 3) := by decide +kernel
theorem dd_S_compare_16 : decode b_S_compare 16 = .ok (.new 148, 3) := by decide +kernel
theorem dd_S_compare_19 : decode b_S_compare 19 = .ok (.dup, 1) := by decide +kernel
theorem dd_S_compare_20 : decode b_S_compare 20 = .ok (.ldc 172, 2) := by decide +kernel
theorem dd_S_compare_22 : decode b_S_compare 22 = .ok (.invokespecial 152, 3) := by decide +kernel
theorem dd_S_compare_25 : decode b_S_compare 25 = .ok (.athrow, 1) := by decide +kernel
theorem dd_S_compare_26 : decode b_S_compare 26 = .ok (.aload_n 0, 1) := by decide +kernel
theorem dd_S_compare_27 : decode b_S_compare 27 = .ok (.getfield 30, 3) := by decide +kernel
theorem dd_S_compare_30 : decode b_S_compare 30 = .ok (.iload_n 1, 1) := by decide +kernel
theorem dd_S_compare_31 : decode b_S_compare 31 = .ok (.iload_n 2, 1) := by decide +kernel
theorem dd_S_compare_32 : decode b_S_compare 32 = .ok (.invokevirtual 174, 3) := by decide +kernel
theorem dd_S_compare_35 : decode b_S_compare 35 = .ok (.ireturn, 1) := by decide +kernel
theorem dd_S_sort_0 : decode b_S_sort 0 = .ok (.aload_n 0, 1) := by decide +kernel
theorem dd_S_sort_1 : decode b_S_sort 1 = .ok (.getfield 10, 3) := by decide +kernel
theorem dd_S_sort_4 : decode b_S_sort 4 = .ok (.invokevirtual 137, 3) := by decide +kernel
theorem dd_S_sort_7 : decode b_S_sort 7 = .ok (.istore_n 1, 1) := by decide +kernel
theorem dd_S_sort_8 : decode b_S_sort 8 = .ok (.iload_n 1, 1) := by decide +kernel
theorem dd_S_sort_9 : decode b_S_sort 9 = .ok (.sipush 1000, 3) := by decide +kernel
theorem dd_S_sort_12 : decode b_S_sort 12 = .ok (.if_icmp .le 13, 3) := by decide +kernel
theorem dd_S_sort_15 : decode b_S_sort 15 = .ok (.new 121, 3) := by decide +kernel
theorem dd_S_sort_18 : decode b_S_sort 18 = .ok (.dup, 1) := by decide +kernel
theorem dd_S_sort_19 : decode b_S_sort 19 = .ok (.ldc 178, 2) := by decide +kernel
theorem dd_S_sort_21 : decode b_S_sort 21 = .ok (.invokespecial 125, 3) := by decide +kernel
theorem dd_S_sort_24 : decode b_S_sort 24 = .ok (.athrow, 1) := by decide +kernel
theorem dd_S_sort_25 : decode b_S_sort 25 = .ok (.aload_n 0, 1) := by decide +kernel
theorem dd_S_sort_26 : decode b_S_sort 26 = .ok (.getfield 39, 3) := by decide +kernel
theorem dd_S_sort_29 : decode b_S_sort 29 = .ok (.iload_n 1, 1) := by decide +kernel
theorem dd_S_sort_30 : decode b_S_sort 30 = .ok (.invokevirtual 180, 3) := by decide +kernel
theorem dd_S_sort_33 : decode b_S_sort 33 = .ok (.aload_n 0, 1) := by decide +kernel
theorem dd_S_sort_34 : decode b_S_sort 34 = .ok (.getfield 55, 3) := by decide +kernel
theorem dd_S_sort_37 : decode b_S_sort 37 = .ok (.iload_n 1, 1) := by decide +kernel
theorem dd_S_sort_38 : decode b_S_sort 38 = .ok (.aload_n 0, 1) := by decide +kernel
theorem dd_S_sort_39 : decode b_S_sort 39 = .ok (.getfield 67, 3) := by decide +kernel
theorem dd_S_sort_42 : decode b_S_sort 42 = .ok (.invokevirtual 183, 3) := by decide +kernel
theorem dd_S_sort_45 : decode b_S_sort 45 = .ok (.aload_n 0, 1) := by decide +kernel
theorem dd_S_sort_46 : decode b_S_sort 46 = .ok (.getfield 55, 3) := by decide +kernel
theorem dd_S_sort_49 : decode b_S_sort 49 = .ok (.aload_n 0, 1) := by decide +kernel
theorem dd_S_sort_50 : decode b_S_sort 50 = .ok (.getfield 70, 3) := by decide +kernel
theorem dd_S_sort_53 : decode b_S_sort 53 = .ok (.invokevirtual 187, 3) := by decide +kernel
theorem dd_S_sort_56 : decode b_S_sort 56 = .ok (.aload_n 0, 1) := by decide +kernel
theorem dd_S_sort_57 : decode b_S_sort 57 = .ok (.iconst 0, 1) := by decide +kernel
theorem dd_S_sort_58 : decode b_S_sort 58 = .ok (.putfield 63, 3) := by decide +kernel
theorem dd_S_sort_61 : decode b_S_sort 61 = .ok (.iconst 0, 1) := by decide +kernel
theorem dd_S_sort_62 : decode b_S_sort 62 = .ok (.istore_n 2, 1) := by decide +kernel
theorem dd_S_sort_63 : decode b_S_sort 63 = .ok (.iload_n 2, 1) := by decide +kernel
theorem dd_S_sort_64 : decode b_S_sort 64 = .ok (.iload_n 1, 1) := by decide +kernel
theorem dd_S_sort_65 : decode b_S_sort 65 = .ok (.if_icmp .ge 21, 3) := by decide +kernel
theorem dd_S_sort_68 : decode b_S_sort 68 = .ok (.aload_n 0, 1) := by decide +kernel
theorem dd_S_sort_69 : decode b_S_sort 69 = .ok (.aload_n 0, 1) := by decide +kernel
theorem dd_S_sort_70 : decode b_S_sort 70 = .ok (.getfield 39, 3) := by decide +kernel
theorem dd_S_sort_73 : decode b_S_sort 73 = .ok (.iload_n 2, 1) := by decide +kernel
theorem dd_S_sort_74 : decode b_S_sort 74 = .ok (.invokevirtual 190, 3) := by decide +kernel
theorem dd_S_sort_77 : decode b_S_sort 77 = .ok (.invokevirtual 193, 3) := by decide +kernel
theorem dd_S_sort_80 : decode b_S_sort 80 = .ok (.iinc 2 1, 3) := by decide +kernel
theorem dd_S_sort_83 : decode b_S_sort 83 = .ok (.goto (-20), 3) := by decide +kernel
theorem dd_S_sort_86 : decode b_S_sort 86 = .ok (.aload_n 0, 1) := by decide +kernel
theorem dd_S_sort_87 : decode b_S_sort 87 = .ok (.getfield 55, 3) := by decide +kernel
theorem dd_S_sort_90 : decode b_S_sort 90 = .ok (.iload_n 1, 1) := by decide +kernel
theorem dd_S_sort_91 : decode b_S_sort 91 = .ok (.aload_n 0, 1) := by decide +kernel
theorem dd_S_sort_92 : decode b_S_sort 92 = .ok (.getfield 63, 3) := by decide +kernel
theorem dd_S_sort_95 : decode b_S_sort 95 = .ok (.isub, 1) := by decide +kernel
theorem dd_S_sort_96 : decode b_S_sort 96 = .ok (.putfield 196, 3) := by decide +kernel
theorem dd_S_sort_99 : decode b_S_sort 99 = .ok (.aload_n 0, 1) := by decide +kernel
theorem dd_S_sort_100 : decode b_S_sort 100 = .ok (.getfield 63, 3) := by decide +kernel
theorem dd_S_sort_103 : decode b_S_sort 103 = .ok (.ireturn, 1) := by decide +kernel
theorem dd_S_check_0 : decode b_S_check 0 = .ok (.aload_n 0, 1) := by decide +kernel
theorem dd_S_check_1 : decode b_S_check 1 = .ok (.getfield 10, 3) := by decide +kernel
theorem dd_S_check_4 : decode b_S_check 4 = .ok (.invokevirtual 137, 3) := by decide +kernel
theorem dd_S_check_7 : decode b_S_check 7 = .ok (.istore_n 1, 1) := by decide +kernel
theorem dd_S_check_8 : decode b_S_check 8 = .ok (.iconst 1, 1) := by decide +kernel
theorem dd_S_check_9 : decode b_S_check 9 = .ok (.istore_n 2, 1) := by decide +kernel
theorem dd_S_check_10 : decode b_S_check 10 = .ok (.iload_n 2, 1) := by decide +kernel
theorem dd_S_check_11 : decode b_S_check 11 = .ok (.iload_n 1, 1) := by decide +kernel
theorem dd_S_check_12 : decode b_S_check 12 = .ok (.if_icmp .ge 41, 3) := by decide +kernel
theorem dd_S_check_15 : decode b_S_check 15 = .ok (.aload_n 0, 1) := by decide +kernel
theorem dd_S_check_16 : decode b_S_check 16 = .ok (.getfield 30, 3) := by decide +kernel
theorem dd_S_check_19 : decode b_S_check 19 = .ok (.iload_n 2, 1) := by decide +kernel
theorem dd_S_check_20 : decode b_S_check 20 = .ok (.iconst 1, 1) := by decide +kernel
theorem dd_S_check_21 : decode b_S_check 21 = .ok (.isub, 1) := by decide +kernel
theorem dd_S_check_22 : decode b_S_check 22 = .ok (.iload_n 2, 1) := by decide +kernel
theorem dd_S_check_23 : decode b_S_check 23 = .ok (.invokevirtual 199, 3) := by decide +kernel
theorem dd_S_check_26 : decode b_S_check 26 = .ok (.istore_n 3, 1) := by decide +kernel
theorem dd_S_check_27 : decode b_S_check 27 = .ok (.iload_n 3, 1) := by decide +kernel
theorem dd_S_check_28 : decode b_S_check 28 = .ok (.ifCond .gt 17, 3) := by decide +kernel
theorem dd_S_check_31 : decode b_S_check 31 = .ok (.aload_n 0, 1) := by decide +kernel
theorem dd_S_check_32 : decode b_S_check 32 = .ok (.getfield 30, 3) := by decide +kernel
theorem dd_S_check_35 : decode b_S_check 35 = .ok (.getfield 108, 3) := by decide +kernel
theorem dd_S_check_38 : decode b_S_check 38 = .ok (.ifCond .eq 9, 3) := by decide +kernel
theorem dd_S_check_41 : decode b_S_check 41 = .ok (.iload_n 3, 1) := by decide +kernel
theorem dd_S_check_42 : decode b_S_check 42 = .ok (.ifCond .ne 5, 3) := by decide +kernel
theorem dd_S_check_45 : decode b_S_check 45 = .ok (.iload_n 2, 1) := by decide +kernel
theorem dd_S_check_46 : decode b_S_check 46 = .ok (.ireturn, 1) := by decide +kernel
theorem dd_S_check_47 : decode b_S_check 47 = .ok (.iinc 2 1, 3) := by decide +kernel
theorem dd_S_check_50 : decode b_S_check 50 = .ok (.goto (-40), 3) := by decide +kernel
theorem dd_S_check_53 : decode b_S_check 53 = .ok (.iconst (-1), 1) := by decide +kernel
theorem dd_S_check_54 : decode b_S_check 54 = .ok (.ireturn, 1) := by decide +kernel
end
section
theorem dd_S_merge_0 : decode b_S_merge 0 = .ok (.iload_n 1, 1) := by decide +kernel
theorem dd_S_merge_1 : decode b_S_merge 1 = .ok (.iconst 1, 1) := by decide +kernel
theorem dd_S_merge_2 : decode b_S_merge 2 = .ok (.if_icmp .ge 13, 3) := by decide +kernel
theorem dd_S_merge_5 : decode b_S_merge 5 = .ok (.new 91, 3) := by decide +kernel
theorem dd_S_merge_8 : decode b_S_merge 8 = .ok (.dup, 1) := by decide +kernel
theorem dd_S_merge_9 : decode b_S_merge 9 = .ok (.ldc 202, 2) := by decide +kernel
theorem dd_S_merge_11 : decode b_S_merge 11 = .ok (.invokespecial 95, 3) := by decide +kernel
theorem dd_S_merge_14 : decode b_S_merge 14 = .ok (.athrow, 1) := by decide +kernel
theorem dd_S_merge_15 : decode b_S_merge 15 = .ok (.aload_n 0, 1) := by decide +kernel
theorem dd_S_merge_16 : decode b_S_merge 16 = .ok (.getfield 10, 3) := by decide +kernel
theorem dd_S_merge_19 : decode b_S_merge 19 = .ok (.invokevirtual 137, 3) := by decide +kernel
theorem dd_S_merge_22 : decode b_S_merge 22 = .ok (.istore_n 2, 1) := by decide +kernel
theorem dd_S_merge_23 : decode b_S_merge 23 = .ok (.iload_n 2, 1) := by decide +kernel
theorem dd_S_merge_24 : decode b_S_merge 24 = .ok (.sipush 1000, 3) := by decide +kernel
theorem dd_S_merge_27 : decode b_S_merge 27 = .ok (.if_icmp .le 13, 3) := by decide +kernel
theorem dd_S_merge_30 : decode b_S_merge 30 = .ok (.new 121, 3) := by decide +kernel
theorem dd_S_merge_33 : decode b_S_merge 33 = .ok (.dup, 1) := by decide +kernel
theorem dd_S_merge_34 : decode b_S_merge 34 = .ok (.ldc 178, 2) := by decide +kernel
theorem dd_S_merge_36 : decode b_S_merge 36 = .ok (.invokespecial 125, 3) := by decide +kernel
theorem dd_S_merge_39 : decode b_S_merge 39 = .ok (.athrow, 1) := by decide +kernel
theorem dd_S_merge_40 : decode b_S_merge 40 = .ok (.aload_n 0, 1) := by decide +kernel
theorem dd_S_merge_41 : decode b_S_merge 41 = .ok (.getfield 39, 3) := by decide +kernel
theorem dd_S_merge_44 : decode b_S_merge 44 = .ok (.iload_n 2, 1) := by decide +kernel
theorem dd_S_merge_45 : decode b_S_merge 45 = .ok (.invokevirtual 180, 3) := by decide +kernel
theorem dd_S_merge_48 : decode b_S_merge 48 = .ok (.aload_n 0, 1) := by decide +kernel
theorem dd_S_merge_49 : decode b_S_merge 49 = .ok (.getfield 46, 3) := by decide +kernel
theorem dd_S_merge_52 : decode b_S_merge 52 = .ok (.invokevirtual 204, 3) := by decide +kernel
theorem dd_S_merge_55 : decode b_S_merge 55 = .ok (.iconst 0, 1) := by decide +kernel
theorem dd_S_merge_56 : decode b_S_merge 56 = .ok (.istore_n 3, 1) := by decide +kernel
theorem dd_S_merge_57 : decode b_S_merge 57 = .ok (.iload_n 3, 1) := by decide +kernel
theorem dd_S_merge_58 : decode b_S_merge 58 = .ok (.iload_n 2, 1) := by decide +kernel
theorem dd_S_merge_59 : decode b_S_merge 59 = .ok (.if_icmp .ge 30, 3) := by decide +kernel
theorem dd_S_merge_62 : decode b_S_merge 62 = .ok (.iload_n 3, 1) := by decide +kernel
theorem dd_S_merge_63 : decode b_S_merge 63 = .ok (.iload_n 1, 1) := by decide +kernel
theorem dd_S_merge_64 : decode b_S_merge 64 = .ok (.irem, 1) := by decide +kernel
theorem dd_S_merge_65 : decode b_S_merge 65 = .ok (.ifCond .ne 18, 3) := by decide +kernel
theorem dd_S_merge_68 : decode b_S_merge 68 = .ok (.aload_n 0, 1) := by decide +kernel
theorem dd_S_merge_69 : decode b_S_merge 69 = .ok (.getfield 46, 3) := by decide +kernel
theorem dd_S_merge_72 : decode b_S_merge 72 = .ok (.aload_n 0, 1) := by decide +kernel
theorem dd_S_merge_73 : decode b_S_merge 73 = .ok (.getfield 39, 3) := by decide +kernel
theorem dd_S_merge_76 : decode b_S_merge 76 = .ok (.iload_n 3, 1) := by decide +kernel
theorem dd_S_merge_77 : decode b_S_merge 77 = .ok (.invokevirtual 207, 3) := by decide +kernel
theorem dd_S_merge_80 : decode b_S_merge 80 = .ok (.invokevirtual 210, 3) := by decide +kernel
theorem dd_S_merge_83 : decode b_S_merge 83 = .ok (.iinc 3 1, 3) := by decide +kernel
theorem dd_S_merge_86 : decode b_S_merge 86 = .ok (.goto (-29), 3) := by decide +kernel
theorem dd_S_merge_89 : decode b_S_merge 89 = .ok (.aload_n 0, 1) := by decide +kernel
theorem dd_S_merge_90 : decode b_S_merge 90 = .ok (.iconst 0, 1) := by decide +kernel
theorem dd_S_merge_91 : decode b_S_merge 91 = .ok (.putfield 63, 3) := by decide +kernel
theorem dd_S_merge_94 : decode b_S_merge 94 = .ok (.iconst 0, 1) := by decide +kernel
theorem dd_S_merge_95 : decode b_S_merge 95 = .ok (.istore_n 3, 1) := by decide +kernel
theorem dd_S_merge_96 : decode b_S_merge 96 = .ok (.iload_n 3, 1) := by decide +kernel
theorem dd_S_merge_97 : decode b_S_merge 97 = .ok (.iload_n 2, 1) := by decide +kernel
theorem dd_S_merge_98 : decode b_S_merge 98 = .ok (.if_icmp .ge 66, 3) := by decide +kernel
theorem dd_S_merge_101 : decode b_S_merge 101 = .ok (.aload_n 0, 1) := by decide +kernel
theorem dd_S_merge_102 : decode b_S_merge 102 = .ok (.getfield 39, 3) := by decide +kernel
theorem dd_S_merge_105 : decode b_S_merge 105 = .ok (.aload_n 0, 1) := by decide +kernel
theorem dd_S_merge_106 : decode b_S_merge 106 = .ok (.getfield 46, 3) := by decide +kernel
theorem dd_S_merge_109 : decode b_S_merge 109 = .ok (.invokevirtual 213, 3) := by decide +kernel
theorem dd_S_merge_112 : decode b_S_merge 112 = .ok (.invokevirtual 190, 3) := by decide +kernel
theorem dd_S_merge_115 : decode b_S_merge 115 = .ok (.istore 4, 2) := by decide +kernel
theorem dd_S_merge_117 : decode b_S_merge 117 = .ok (.aload_n 0, 1) := by decide +kernel
theorem dd_S_merge_118 : decode b_S_merge 118 = .ok (.iload 4, 2) := by decide +kernel
theorem dd_S_merge_120 : decode b_S_merge 120 = .ok (.invokevirtual 193, 3) := by decide +kernel
theorem dd_S_merge_123 : decode b_S_merge 123 = .ok (.iload 4, 2) := by decide +kernel
theorem dd_S_merge_125 : decode b_S_merge 125 = .ok (.iconst 1, 1) := by decide +kernel
theorem dd_S_merge_126 : decode b_S_merge 126 = .ok (.iadd, 1) := by decide +kernel
theorem dd_S_merge_127 : decode b_S_merge 127 = .ok (.istore 5, 2) := by decide +kernel
theorem dd_S_merge_129 : decode b_S_merge 129 = .ok (.iload 5, 2) := by decide +kernel
theorem dd_S_merge_131 : decode b_S_merge 131 = .ok (.iload_n 2, 1) := by decide +kernel
theorem dd_S_merge_132 : decode b_S_merge 132 = .ok (.if_icmp .ge 26, 3) := by decide +kernel
theorem dd_S_merge_135 : decode b_S_merge 135 = .ok (.iload 5, 2) := by decide +kernel
theorem dd_S_merge_137 : decode b_S_merge 137 = .ok (.iload_n 1, 1) := by decide +kernel
theorem dd_S_merge_138 : decode b_S_merge 138 = .ok (.irem, 1) := by decide +kernel
theorem dd_S_merge_139 : decode b_S_merge 139 = .ok (.ifCond .eq 19, 3) := by decide +kernel
theorem dd_S_merge_142 : decode b_S_merge 142 = .ok (.aload_n 0, 1) := by decide +kernel
theorem dd_S_merge_143 : decode b_S_merge 143 = .ok (.getfield 46, 3) := by decide +kernel
theorem dd_S_merge_146 : decode b_S_merge 146 = .ok (.aload_n 0, 1) := by decide +kernel
theorem dd_S_merge_147 : decode b_S_merge 147 = .ok (.getfield 39, 3) := by decide +kernel
theorem dd_S_merge_150 : decode b_S_merge 150 = .ok (.iload 5, 2) := by decide +kernel
theorem dd_S_merge_152 : decode b_S_merge 152 = .ok (.invokevirtual 207, 3) := by decide +kernel
theorem dd_S_merge_155 : decode b_S_merge 155 = .ok (.invokevirtual 210, 3) := by decide +kernel
theorem dd_S_merge_158 : decode b_S_merge 158 = .ok (.iinc 3 1, 3) := by decide +kernel
theorem dd_S_merge_161 : decode b_S_merge 161 = .ok (.goto (-65), 3) := by decide +kernel
theorem dd_S_merge_164 : decode b_S_merge 164 = .ok (.aload_n 0, 1) := by decide +kernel
theorem dd_S_merge_165 : decode b_S_merge 165 = .ok (.getfield 63, 3) := by decide +kernel
theorem dd_S_merge_168 : decode b_S_merge 168 = .ok (.ireturn, 1) := by decide +kernel
theorem dd_S_result_0 : decode b_S_result 0 = .ok (.iload_n 1, 1) := by decide +kernel
theorem dd_S_result_1 : decode b_S_result 1 = .ok (.iconst 0, 1) := by decide +kernel
theorem dd_S_result_2 : decode b_S_result 2 = .ok (.aload_n 0, 1) := by decide +kernel
theorem dd_S_result_3 : decode b_S_result 3 = .ok (.getfield 63, 3) := by decide +kernel
theorem dd_S_result_6 : decode b_S_result 6 = .ok (.iconst 1, 1) := by decide +kernel
theorem dd_S_result_7 : decode b_S_result 7 = .ok (.isub, 1) := by decide +kernel
theorem dd_S_result_8 : decode b_S_result 8 = .ok (.invokestatic 87, 3) := by decide +kernel
theorem dd_S_result_11 : decode b_S_result 11 = .ok (.ifCond .eq 12, 3) := by decide +kernel
theorem dd_S_result_14 : decode b_S_result 14 = .ok (.aload_n 0, 1) := by decide +kernel
theorem dd_S_result_15 : decode b_S_result 15 = .ok (.getfield 59, 3) := by decide +kernel
theorem dd_S_result_18 : decode b_S_result 18 = .ok (.iload_n 1, 1) := by decide +kernel
theorem dd_S_result_19 : decode b_S_result 19 = .ok (.iaload, 1) := by decide +kernel
theorem dd_S_result_20 : decode b_S_result 20 = .ok (.goto 4, 3) := by decide +kernel
theorem dd_S_result_23 : decode b_S_result 23 = .ok (.iconst (-1), 1) := by decide +kernel
theorem dd_S_result_24 : decode b_S_result 24 = .ok (.ireturn, 1) := by decide +kernel
theorem dd_S_byteAt_0 : decode b_S_byteAt 0 = .ok (.iload_n 1, 1) := by decide +kernel
theorem dd_S_byteAt_1 : decode b_S_byteAt 1 = .ok (.iconst 0, 1) := by decide +kernel
theorem dd_S_byteAt_2 : decode b_S_byteAt 2 = .ok (.aload_n 0, 1) := by decide +kernel
theorem dd_S_byteAt_3 : decode b_S_byteAt 3 = .ok (.getfield 63, 3) := by decide +kernel
theorem dd_S_byteAt_6 : decode b_S_byteAt 6 = .ok (.iconst 1, 1) := by decide +kernel
theorem dd_S_byteAt_7 : decode b_S_byteAt 7 = .ok (.isub, 1) := by decide +kernel
theorem dd_S_byteAt_8 : decode b_S_byteAt 8 = .ok (.invokestatic 87, 3) := by decide +kernel
theorem dd_S_byteAt_11 : decode b_S_byteAt 11 = .ok (.ifCond .ne 5, 3) := by decide +kernel
theorem dd_S_byteAt_14 : decode b_S_byteAt 14 = .ok (.iconst (-1), 1) := by decide +kernel
theorem dd_S_byteAt_15 : decode b_S_byteAt 15 = .ok (.ireturn, 1) := by decide +kernel
theorem dd_S_byteAt_16 : decode b_S_byteAt 16 = .ok (.aload_n 0, 1) := by decide +kernel
theorem dd_S_byteAt_17 : decode b_S_byteAt 17 = .ok (.getfield 10, 3) := by decide +kernel
theorem dd_S_byteAt_20 : decode b_S_byteAt 20 = .ok (.aload_n 0, 1) := by decide +kernel
theorem dd_S_byteAt_21 : decode b_S_byteAt 21 = .ok (.getfield 59, 3) := by decide +kernel
theorem dd_S_byteAt_24 : decode b_S_byteAt 24 = .ok (.iload_n 1, 1) := by decide +kernel
theorem dd_S_byteAt_25 : decode b_S_byteAt 25 = .ok (.iaload, 1) := by decide +kernel
theorem dd_S_byteAt_26 : decode b_S_byteAt 26 = .ok (.invokevirtual 168, 3) := by decide +kernel
theorem dd_S_byteAt_29 : decode b_S_byteAt 29 = .ok (.istore_n 3, 1) := by decide +kernel
theorem dd_S_byteAt_30 : decode b_S_byteAt 30 = .ok (.aload_n 0, 1) := by decide +kernel
theorem dd_S_byteAt_31 : decode b_S_byteAt 31 = .ok (.getfield 10, 3) := by decide +kernel
theorem dd_S_byteAt_34 : decode b_S_byteAt 34 = .ok (.aload_n 0, 1) := by decide +kernel
theorem dd_S_byteAt_35 : decode b_S_byteAt 35 = .ok (.getfield 59, 3) := by decide +kernel
theorem dd_S_byteAt_38 : decode b_S_byteAt 38 = .ok (.iload_n 1, 1) := by decide +kernel
theorem dd_S_byteAt_39 : decode b_S_byteAt 39 = .ok (.iaload, 1) := by decide +kernel
theorem dd_S_byteAt_40 : decode b_S_byteAt 40 = .ok (.invokevirtual 216, 3) := by decide +kernel
theorem dd_S_byteAt_43 : decode b_S_byteAt 43 = .ok (.iload_n 3, 1) := by decide +kernel
theorem dd_S_byteAt_44 : decode b_S_byteAt 44 = .ok (.isub, 1) := by decide +kernel
theorem dd_S_byteAt_45 : decode b_S_byteAt 45 = .ok (.istore 4, 2) := by decide +kernel
theorem dd_S_byteAt_47 : decode b_S_byteAt 47 = .ok (.iload_n 2, 1) := by decide +kernel
theorem dd_S_byteAt_48 : decode b_S_byteAt 48 = .ok (.iconst 0, 1) := by decide +kernel
theorem dd_S_byteAt_49 : decode b_S_byteAt 49 = .ok (.iload 4, 2) := by decide +kernel
theorem dd_S_byteAt_51 : decode b_S_byteAt 51 = .ok (.iconst 1, 1) := by decide +kernel
theorem dd_S_byteAt_52 : decode b_S_byteAt 52 = .ok (.isub, 1) := by decide +kernel
theorem dd_S_byteAt_53 : decode b_S_byteAt 53 = .ok (.invokestatic 87, 3) := by decide +kernel
theorem dd_S_byteAt_56 : decode b_S_byteAt 56 = .ok (.ifCond .eq 16, 3) := by decide +kernel
theorem dd_S_byteAt_59 : decode b_S_byteAt 59 = .ok (.aload_n 0, 1) := by decide +kernel
theorem dd_S_byteAt_60 : decode b_S_byteAt 60 = .ok (.getfield 10, 3) := by decide +kernel
theorem dd_S_byteAt_63 : decode b_S_byteAt 63 = .ok (.iload_n 3, 1) := by decide +kernel
theorem dd_S_byteAt_64 : decode b_S_byteAt 64 = .ok (.iload_n 2, 1) := by decide +kernel
theorem dd_S_byteAt_65 : decode b_S_byteAt 65 = .ok (.iadd, 1) := by decide +kernel
theorem dd_S_byteAt_66 : decode b_S_byteAt 66 = .ok (.invokevirtual 219, 3) := by decide +kernel
theorem dd_S_byteAt_69 : decode b_S_byteAt 69 = .ok (.goto 4, 3) := by decide +kernel
theorem dd_S_byteAt_72 : decode b_S_byteAt 72 = .ok (.iconst (-1), 1) := by decide +kernel
theorem dd_S_byteAt_73 : decode b_S_byteAt 73 = .ok (.ireturn, 1) := by decide +kernel
theorem dd_S_run_0 : decode b_S_run 0 = .ok (.iload_n 1, 1) := by decide +kernel
theorem dd_S_run_1 : decode b_S_run 1 = .ok (.iconst 0, 1) := by decide +kernel
theorem dd_S_run_2 : decode b_S_run 2 = .ok (.aload_n 0, 1) := by decide +kernel
theorem dd_S_run_3 : decode b_S_run 3 = .ok (.getfield 55, 3) := by decide +kernel
theorem dd_S_run_6 : decode b_S_run 6 = .ok (.getfield 222, 3) := by decide +kernel
theorem dd_S_run_9 : decode b_S_run 9 = .ok (.iconst 1, 1) := by decide +kernel
theorem dd_S_run_10 : decode b_S_run 10 = .ok (.isub, 1) := by decide +kernel
theorem dd_S_run_11 : decode b_S_run 11 = .ok (.invokestatic 87, 3) := by decide +kernel
theorem dd_S_run_14 : decode b_S_run 14 = .ok (.ifCond .eq 15, 3) := by decide +kernel
theorem dd_S_run_17 : decode b_S_run 17 = .ok (.aload_n 0, 1) := by decide +kernel
theorem dd_S_run_18 : decode b_S_run 18 = .ok (.getfield 55, 3) := by decide +kernel
theorem dd_S_run_21 : decode b_S_run 21 = .ok (.getfield 225, 3) := by decide +kernel
theorem dd_S_run_24 : decode b_S_run 24 = .ok (.iload_n 1, 1) := by decide +kernel
theorem dd_S_run_25 : decode b_S_run 25 = .ok (.iaload, 1) := by decide +kernel
theorem dd_S_run_26 : decode b_S_run 26 = .ok (.goto 4, 3) := by decide +kernel
theorem dd_S_run_29 : decode b_S_run 29 = .ok (.iconst (-1), 1) := by decide +kernel
theorem dd_S_run_30 : decode b_S_run 30 = .ok (.ireturn, 1) := by decide +kernel
theorem dd_S_about_0 : decode b_S_about 0 = .ok (.iload_n 1, 1) := by decide +kernel
theorem dd_S_about_1 : decode b_S_about 1 = .ok (.tableswitch 96 0 6 #[43, 51, 59, 67, 75, 83, 91], 43) := by decide +kernel
theorem dd_S_about_44 : decode b_S_about 44 = .ok (.aload_n 0, 1) := by decide +kernel
theorem dd_S_about_45 : decode b_S_about 45 = .ok (.getfield 55, 3) := by decide +kernel
theorem dd_S_about_48 : decode b_S_about 48 = .ok (.getfield 222, 3) := by decide +kernel
theorem dd_S_about_51 : decode b_S_about 51 = .ok (.ireturn, 1) := by decide +kernel
theorem dd_S_about_52 : decode b_S_about 52 = .ok (.aload_n 0, 1) := by decide +kernel
theorem dd_S_about_53 : decode b_S_about 53 = .ok (.getfield 55, 3) := by decide +kernel
theorem dd_S_about_56 : decode b_S_about 56 = .ok (.getfield 228, 3) := by decide +kernel
theorem dd_S_about_59 : decode b_S_about 59 = .ok (.ireturn, 1) := by decide +kernel
theorem dd_S_about_60 : decode b_S_about 60 = .ok (.aload_n 0, 1) := by decide +kernel
theorem dd_S_about_61 : decode b_S_about 61 = .ok (.getfield 55, 3) := by decide +kernel
theorem dd_S_about_64 : decode b_S_about 64 = .ok (.getfield 231, 3) := by decide +kernel
theorem dd_S_about_67 : decode b_S_about 67 = .ok (.ireturn, 1) := by decide +kernel
theorem dd_S_about_68 : decode b_S_about 68 = .ok (.aload_n 0, 1) := by decide +kernel
theorem dd_S_about_69 : decode b_S_about 69 = .ok (.getfield 55, 3) := by decide +kernel
theorem dd_S_about_72 : decode b_S_about 72 = .ok (.getfield 196, 3) := by decide +kernel
theorem dd_S_about_75 : decode b_S_about 75 = .ok (.ireturn, 1) := by decide +kernel
theorem dd_S_about_76 : decode b_S_about 76 = .ok (.aload_n 0, 1) := by decide +kernel
theorem dd_S_about_77 : decode b_S_about 77 = .ok (.getfield 10, 3) := by decide +kernel
theorem dd_S_about_80 : decode b_S_about 80 = .ok (.getfield 73, 3) := by decide +kernel
theorem dd_S_about_83 : decode b_S_about 83 = .ok (.ireturn, 1) := by decide +kernel
theorem dd_S_about_84 : decode b_S_about 84 = .ok (.aload_n 0, 1) := by decide +kernel
theorem dd_S_about_85 : decode b_S_about 85 = .ok (.getfield 30, 3) := by decide +kernel
theorem dd_S_about_88 : decode b_S_about 88 = .ok (.getfield 118, 3) := by decide +kernel
theorem dd_S_about_91 : decode b_S_about 91 = .ok (.ireturn, 1) := by decide +kernel
theorem dd_S_about_92 : decode b_S_about 92 = .ok (.aload_n 0, 1) := by decide +kernel
theorem dd_S_about_93 : decode b_S_about 93 = .ok (.getfield 63, 3) := by decide +kernel
theorem dd_S_about_96 : decode b_S_about 96 = .ok (.ireturn, 1) := by decide +kernel
theorem dd_S_about_97 : decode b_S_about 97 = .ok (.new 91, 3) := by decide +kernel
theorem dd_S_about_100 : decode b_S_about 100 = .ok (.dup, 1) := by decide +kernel
theorem dd_S_about_101 : decode b_S_about 101 = .ok (.ldc 234, 2) := by decide +kernel
theorem dd_S_about_103 : decode b_S_about 103 = .ok (.invokespecial 95, 3) := by decide +kernel
theorem dd_S_about_106 : decode b_S_about 106 = .ok (.athrow, 1) := by decide +kernel
theorem dd_S_isLine_0 : decode b_S_isLine 0 = .ok (.iload_n 1, 1) := by decide +kernel
theorem dd_S_isLine_1 : decode b_S_isLine 1 = .ok (.iconst 0, 1) := by decide +kernel
theorem dd_S_isLine_2 : decode b_S_isLine 2 = .ok (.aload_n 0, 1) := by decide +kernel
theorem dd_S_isLine_3 : decode b_S_isLine 3 = .ok (.getfield 10, 3) := by decide +kernel
theorem dd_S_isLine_6 : decode b_S_isLine 6 = .ok (.invokevirtual 137, 3) := by decide +kernel
theorem dd_S_isLine_9 : decode b_S_isLine 9 = .ok (.iconst 1, 1) := by decide +kernel
theorem dd_S_isLine_10 : decode b_S_isLine 10 = .ok (.isub, 1) := by decide +kernel
theorem dd_S_isLine_11 : decode b_S_isLine 11 = .ok (.invokestatic 87, 3) := by decide +kernel
theorem dd_S_isLine_14 : decode b_S_isLine 14 = .ok (.ireturn, 1) := by decide +kernel
theorem dd_S_addToResult_0 : decode b_S_addToResult 0 = .ok (.aload_n 0, 1) := by decide +kernel
theorem dd_S_addToResult_1 : decode b_S_addToResult 1 = .ok (.getfield 30, 3) := by decide +kernel
theorem dd_S_addToResult_4 : decode b_S_addToResult 4 = .ok (.getfield 108, 3) := by decide +kernel
theorem dd_S_addToResult_7 : decode b_S_addToResult 7 = .ok (.ifCond .eq 36, 3) := by decide +kernel
theorem dd_S_addToResult_10 : decode b_S_addToResult 10 = .ok (.aload_n 0, 1) := by decide +kernel
theorem dd_S_addToResult_11 : decode b_S_addToResult 11 = .ok (.getfield 63, 3) := by decide +kernel
theorem dd_S_addToResult_14 : decode b_S_addToResult 14 = .ok (.ifCond .le 29, 3) := by decide +kernel
theorem dd_S_addToResult_17 : decode b_S_addToResult 17 = .ok (.aload_n 0, 1) := by decide +kernel
theorem dd_S_addToResult_18 : decode b_S_addToResult 18 = .ok (.getfield 30, 3) := by decide +kernel
theorem dd_S_addToResult_21 : decode b_S_addToResult 21 = .ok (.aload_n 0, 1) := by decide +kernel
theorem dd_S_addToResult_22 : decode b_S_addToResult 22 = .ok (.getfield 59, 3) := by decide +kernel
theorem dd_S_addToResult_25 : decode b_S_addToResult 25 = .ok (.aload_n 0, 1) := by decide +kernel
theorem dd_S_addToResult_26 : decode b_S_addToResult 26 = .ok (.getfield 63, 3) := by decide +kernel
theorem dd_S_addToResult_29 : decode b_S_addToResult 29 = .ok (.iconst 1, 1) := by decide +kernel
theorem dd_S_addToResult_30 : decode b_S_addToResult 30 = .ok (.isub, 1) := by decide +kernel
theorem dd_S_addToResult_31 : decode b_S_addToResult 31 = .ok (.iaload, 1) := by decide +kernel
theorem dd_S_addToResult_32 : decode b_S_addToResult 32 = .ok (.iload_n 1, 1) := by decide +kernel
theorem dd_S_addToResult_33 : decode b_S_addToResult 33 = .ok (.invokevirtual 174, 3) := by decide +kernel
theorem dd_S_addToResult_36 : decode b_S_addToResult 36 = .ok (.ifCond .ne 7, 3) := by decide +kernel
theorem dd_S_addToResult_39 : decode b_S_addToResult 39 = .ok (.iconst 1, 1) := by decide +kernel
theorem dd_S_addToResult_40 : decode b_S_addToResult 40 = .ok (.goto 4, 3) := by decide +kernel
theorem dd_S_addToResult_43 : decode b_S_addToResult 43 = .ok (.iconst 0, 1) := by decide +kernel
theorem dd_S_addToResult_44 : decode b_S_addToResult 44 = .ok (.istore_n 2, 1) := by decide +kernel
theorem dd_S_addToResult_45 : decode b_S_addToResult 45 = .ok (.iload_n 2, 1) := by decide +kernel
theorem dd_S_addToResult_46 : decode b_S_addToResult 46 = .ok (.ifCond .ne 33, 3) := by decide +kernel
theorem dd_S_addToResult_49 : decode b_S_addToResult 49 = .ok (.aload_n 0, 1) := by decide +kernel
theorem dd_S_addToResult_50 : decode b_S_addToResult 50 = .ok (.getfield 63, 3) := by decide +kernel
theorem dd_S_addToResult_53 : decode b_S_addToResult 53 = .ok (.sipush 1000, 3) := by decide +kernel
theorem dd_S_addToResult_56 : decode b_S_addToResult 56 = .ok (.if_icmp .ge 23, 3) := by decide +kernel
theorem dd_S_addToResult_59 : decode b_S_addToResult 59 = .ok (.aload_n 0, 1) := by decide +kernel
theorem dd_S_addToResult_60 : decode b_S_addToResult 60 = .ok (.getfield 59, 3) := by decide +kernel
theorem dd_S_addToResult_63 : decode b_S_addToResult 63 = .ok (.aload_n 0, 1) := by decide +kernel
theorem dd_S_addToResult_64 : decode b_S_addToResult 64 = .ok (.getfield 63, 3) := by decide +kernel
theorem dd_S_addToResult_67 : decode b_S_addToResult 67 = .ok (.iload_n 1, 1) := by decide +kernel
theorem dd_S_addToResult_68 : decode b_S_addToResult 68 = .ok (.iastore, 1) := by decide +kernel
theorem dd_S_addToResult_69 : decode b_S_addToResult 69 = .ok (.aload_n 0, 1) := by decide +kernel
theorem dd_S_addToResult_70 : decode b_S_addToResult 70 = .ok (.dup, 1) := by decide +kernel
theorem dd_S_addToResult_71 : decode b_S_addToResult 71 = .ok (.getfield 63, 3) := by decide +kernel
theorem dd_S_addToResult_74 : decode b_S_addToResult 74 = .ok (.iconst 1, 1) := by decide +kernel
theorem dd_S_addToResult_75 : decode b_S_addToResult 75 = .ok (.iadd, 1) := by decide +kernel
theorem dd_S_addToResult_76 : decode b_S_addToResult 76 = .ok (.putfield 63, 3) := by decide +kernel
theorem dd_S_addToResult_79 : decode b_S_addToResult 79 = .ok (.return_, 1) := by decide +kernel
theorem dd_S_isWithin_0 : decode b_S_isWithin 0 = .ok (.iload_n 0, 1) := by decide +kernel
theorem dd_S_isWithin_1 : decode b_S_isWithin 1 = .ok (.iload_n 1, 1) := by decide +kernel
theorem dd_S_isWithin_2 : decode b_S_isWithin 2 = .ok (.if_icmp .lt 12, 3) := by decide +kernel
theorem dd_S_isWithin_5 : decode b_S_isWithin 5 = .ok (.iload_n 0, 1) := by decide +kernel
theorem dd_S_isWithin_6 : decode b_S_isWithin 6 = .ok (.iload_n 2, 1) := by decide +kernel
theorem dd_S_isWithin_7 : decode b_S_isWithin 7 = .ok (.if_icmp .gt 7, 3) := by decide +kernel
theorem dd_S_isWithin_10 : decode b_S_isWithin 10 = .ok (.iconst 1, 1) := by decide +kernel
theorem dd_S_isWithin_11 : decode b_S_isWithin 11 = .ok (.goto 4, 3) := by decide +kernel
theorem dd_S_isWithin_14 : decode b_S_isWithin 14 = .ok (.iconst 0, 1) := by decide +kernel
theorem dd_S_isWithin_15 : decode b_S_isWithin 15 = .ok (.ireturn, 1) := by decide +kernel
theorem dd_M_init_0 : decode b_M_init 0 = .ok (.aload_n 0, 1) := by decide +kernel
theorem dd_M_init_1 : decode b_M_init 1 = .ok (.invokespecial 1, 3) := by decide +kernel
theorem dd_M_init_4 : decode b_M_init 4 = .ok (.aload_n 0, 1) := by decide +kernel
theorem dd_M_init_5 : decode b_M_init 5 = .ok (.sipush 20000, 3) := by decide +kernel
theorem dd_M_init_8 : decode b_M_init 8 = .ok (.newarray .byte, 2) := by decide +kernel
theorem dd_M_init_10 : decode b_M_init 10 = .ok (.putfield 7, 3) := by decide +kernel
theorem dd_M_init_13 : decode b_M_init 13 = .ok (.aload_n 0, 1) := by decide +kernel
theorem dd_M_init_14 : decode b_M_init 14 = .ok (.sipush 20001, 3) := by decide +kernel
theorem dd_M_init_17 : decode b_M_init 17 = .ok (.newarray .int, 2) := by decide +kernel
theorem dd_M_init_19 : decode b_M_init 19 = .ok (.putfield 13, 3) := by decide +kernel
theorem dd_M_init_22 : decode b_M_init 22 = .ok (.aload_n 0, 1) := by decide +kernel
theorem dd_M_init_23 : decode b_M_init 23 = .ok (.iconst (-1), 1) := by decide +kernel
theorem dd_M_init_24 : decode b_M_init 24 = .ok (.putfield 17, 3) := by decide +kernel
theorem dd_M_init_27 : decode b_M_init 27 = .ok (.aload_n 0, 1) := by decide +kernel
theorem dd_M_init_28 : decode b_M_init 28 = .ok (.bipush 30, 2) := by decide +kernel
theorem dd_M_init_30 : decode b_M_init 30 = .ok (.newarray .int, 2) := by decide +kernel
theorem dd_M_init_32 : decode b_M_init 32 = .ok (.putfield 21, 3) := by decide +kernel
theorem dd_M_init_35 : decode b_M_init 35 = .ok (.aload_n 0, 1) := by decide +kernel
theorem dd_M_init_36 : decode b_M_init 36 = .ok (.bipush 100, 2) := by decide +kernel
theorem dd_M_init_38 : decode b_M_init 38 = .ok (.putfield 24, 3) := by decide +kernel
theorem dd_M_init_41 : decode b_M_init 41 = .ok (.aload_n 0, 1) := by decide +kernel
theorem dd_M_init_42 : decode b_M_init 42 = .ok (.iconst 4, 1) := by decide +kernel
theorem dd_M_init_43 : decode b_M_init 43 = .ok (.putfield 27, 3) := by decide +kernel
theorem dd_M_init_46 : decode b_M_init 46 = .ok (.aload_n 0, 1) := by decide +kernel
theorem dd_M_init_47 : decode b_M_init 47 = .ok (.sipush 6000, 3) := by decide +kernel
theorem dd_M_init_50 : decode b_M_init 50 = .ok (.newarray .int, 2) := by decide +kernel
theorem dd_M_init_52 : decode b_M_init 52 = .ok (.putfield 30, 3) := by decide +kernel
theorem dd_M_init_55 : decode b_M_init 55 = .ok (.aload_n 0, 1) := by decide +kernel
theorem dd_M_init_56 : decode b_M_init 56 = .ok (.sipush 6000, 3) := by decide +kernel
theorem dd_M_init_59 : decode b_M_init 59 = .ok (.newarray .int, 2) := by decide +kernel
theorem dd_M_init_61 : decode b_M_init 61 = .ok (.putfield 33, 3) := by decide +kernel
theorem dd_M_init_64 : decode b_M_init 64 = .ok (.aload_n 0, 1) := by decide +kernel
theorem dd_M_init_65 : decode b_M_init 65 = .ok (.sipush 1000, 3) := by decide +kernel
theorem dd_M_init_68 : decode b_M_init 68 = .ok (.newarray .int, 2) := by decide +kernel
theorem dd_M_init_70 : decode b_M_init 70 = .ok (.putfield 36, 3) := by decide +kernel
theorem dd_M_init_73 : decode b_M_init 73 = .ok (.aload_n 0, 1) := by decide +kernel
theorem dd_M_init_74 : decode b_M_init 74 = .ok (.sipush 1000, 3) := by decide +kernel
theorem dd_M_init_77 : decode b_M_init 77 = .ok (.newarray .int, 2) := by decide +kernel
theorem dd_M_init_79 : decode b_M_init 79 = .ok (.putfield 39, 3) := by decide +kernel
theorem dd_M_init_82 : decode b_M_init 82 = .ok (.aload_n 0, 1) := by decide +kernel
theorem dd_M_init_83 : decode b_M_init 83 = .ok (.sipush 1000, 3) := by decide +kernel
theorem dd_M_init_86 : decode b_M_init 86 = .ok (.newarray .int, 2) := by decide +kernel
theorem dd_M_init_88 : decode b_M_init 88 = .ok (.putfield 42, 3) := by decide +kernel
theorem dd_M_init_91 : decode b_M_init 91 = .ok (.aload_n 0, 1) := by decide +kernel
theorem dd_M_init_92 : decode b_M_init 92 = .ok (.sipush 1000, 3) := by decide +kernel
theorem dd_M_init_95 : decode b_M_init 95 = .ok (.newarray .int, 2) := by decide +kernel
theorem dd_M_init_97 : decode b_M_init 97 = .ok (.putfield 45, 3) := by decide +kernel
theorem dd_M_init_100 : decode b_M_init 100 = .ok (.aload_n 0, 1) := by decide +kernel
theorem dd_M_init_101 : decode b_M_init 101 = .ok (.sipush 1000, 3) := by decide +kernel
theorem dd_M_init_104 : decode b_M_init 104 = .ok (.newarray .int, 2) := by decide +kernel
theorem dd_M_init_106 : decode b_M_init 106 = .ok (.putfield 48, 3) := by decide +kernel
theorem dd_M_init_109 : decode b_M_init 109 = .ok (.aload_n 0, 1) := by decide +kernel
theorem dd_M_init_110 : decode b_M_init 110 = .ok (.sipush 500, 3) := by decide +kernel
theorem dd_M_init_113 : decode b_M_init 113 = .ok (.newarray .int, 2) := by decide +kernel
theorem dd_M_init_115 : decode b_M_init 115 = .ok (.putfield 51, 3) := by decide +kernel
theorem dd_M_init_118 : decode b_M_init 118 = .ok (.aload_n 0, 1) := by decide +kernel
theorem dd_M_init_119 : decode b_M_init 119 = .ok (.sipush 1000, 3) := by decide +kernel
theorem dd_M_init_122 : decode b_M_init 122 = .ok (.newarray .int, 2) := by decide +kernel
theorem dd_M_init_124 : decode b_M_init 124 = .ok (.putfield 54, 3) := by decide +kernel
theorem dd_M_init_127 : decode b_M_init 127 = .ok (.return_, 1) := by decide +kernel
theorem dd_M_thrown_0 : decode b_M_thrown 0 = .ok (.aload_n 0, 1) := by decide +kernel
theorem dd_M_thrown_1 : decode b_M_thrown 1 = .ok (.getfield 57, 3) := by decide +kernel
theorem dd_M_thrown_4 : decode b_M_thrown 4 = .ok (.ireturn, 1) := by decide +kernel
theorem dd_M_fails_0 : decode b_M_fails 0 = .ok (.aload_n 0, 1) := by decide +kernel
theorem dd_M_fails_1 : decode b_M_fails 1 = .ok (.iload_n 1, 1) := by decide +kernel
theorem dd_M_fails_2 : decode b_M_fails 2 = .ok (.ifCond .eq 7, 3) := by decide +kernel
theorem dd_M_fails_5 : decode b_M_fails 5 = .ok (.iload_n 2, 1) := by decide +kernel
theorem dd_M_fails_6 : decode b_M_fails 6 = .ok (.goto 4, 3) := by decide +kernel
theorem dd_M_fails_9 : decode b_M_fails 9 = .ok (.iconst 0, 1) := by decide +kernel
theorem dd_M_fails_10 : decode b_M_fails 10 = .ok (.putfield 57, 3) := by decide +kernel
theorem dd_M_fails_13 : decode b_M_fails 13 = .ok (.iload_n 1, 1) := by decide +kernel
theorem dd_M_fails_14 : decode b_M_fails 14 = .ok (.ireturn, 1) := by decide +kernel
theorem dd_M_change_0 : decode b_M_change 0 = .ok (.aload_n 0, 1) := by decide +kernel
theorem dd_M_change_1 : decode b_M_change 1 = .ok (.iload_n 1, 1) := by decide +kernel
theorem dd_M_change_2 : decode b_M_change 2 = .ok (.putfield 60, 3) := by decide +kernel
theorem dd_M_change_5 : decode b_M_change 5 = .ok (.aload_n 0, 1) := by decide +kernel
theorem dd_M_change_6 : decode b_M_change 6 = .ok (.iconst 0, 1) := by decide +kernel
theorem dd_M_change_7 : decode b_M_change 7 = .ok (.putfield 63, 3) := by decide +kernel
theorem dd_M_change_10 : decode b_M_change 10 = .ok (.aload_n 0, 1) := by decide +kernel
theorem dd_M_change_11 : decode b_M_change 11 = .ok (.iconst 0, 1) := by decide +kernel
theorem dd_M_change_12 : decode b_M_change 12 = .ok (.putfield 67, 3) := by decide +kernel
theorem dd_M_change_15 : decode b_M_change 15 = .ok (.return_, 1) := by decide +kernel
theorem dd_M_feed_0 : decode b_M_feed 0 = .ok (.aload_n 0, 1) := by decide +kernel
theorem dd_M_feed_1 : decode b_M_feed 1 = .ok (.aload_n 0, 1) := by decide +kernel
theorem dd_M_feed_2 : decode b_M_feed 2 = .ok (.getfield 60, 3) := by decide +kernel
theorem dd_M_feed_5 : decode b_M_feed 5 = .ok (.bipush 20, 2) := by decide +kernel
theorem dd_M_feed_7 : decode b_M_feed 7 = .ok (.iadd, 1) := by decide +kernel
theorem dd_M_feed_8 : decode b_M_feed 8 = .ok (.sipush 20000, 3) := by decide +kernel
theorem dd_M_feed_11 : decode b_M_feed 11 = .ok (.if_icmp .le 7, 3) := by decide +kernel
theorem dd_M_feed_14 : decode b_M_feed 14 = .ok (.iconst 1, 1) := by decide +kernel
theorem dd_M_feed_15 : decode b_M_feed 15 = .ok (.goto 4, 3) := by decide +kernel
theorem dd_M_feed_18 : decode b_M_feed 18 = .ok (.iconst 0, 1) := by decide +kernel
theorem dd_M_feed_19 : decode b_M_feed 19 = .ok (.iconst 1, 1) := by decide +kernel
theorem dd_M_feed_20 : decode b_M_feed 20 = .ok (.invokevirtual 70, 3) := by decide +kernel
theorem dd_M_feed_23 : decode b_M_feed 23 = .ok (.ifCond .eq 5, 3) := by decide +kernel
theorem dd_M_feed_26 : decode b_M_feed 26 = .ok (.iconst 0, 1) := by decide +kernel
theorem dd_M_feed_27 : decode b_M_feed 27 = .ok (.ireturn, 1) := by decide +kernel
theorem dd_M_feed_28 : decode b_M_feed 28 = .ok (.iconst 0, 1) := by decide +kernel
theorem dd_M_feed_29 : decode b_M_feed 29 = .ok (.istore 6, 2) := by decide +kernel
theorem dd_M_feed_31 : decode b_M_feed 31 = .ok (.iload 6, 2) := by decide +kernel
theorem dd_M_feed_33 : decode b_M_feed 33 = .ok (.bipush 20, 2) := by decide +kernel
theorem dd_M_feed_35 : decode b_M_feed 35 = .ok (.if_icmp .ge 83, 3) := by decide +kernel
theorem dd_M_feed_38 : decode b_M_feed 38 = .ok (.iload 6, 2) := by decide +kernel
theorem dd_M_feed_40 : decode b_M_feed 40 = .ok (.iconst 4, 1) := by decide +kernel
theorem dd_M_feed_41 : decode b_M_feed 41 = .ok (.if_icmp .ge 7, 3) := by decide +kernel
theorem dd_M_feed_44 : decode b_M_feed 44 = .ok (.iload_n 1, 1) := by decide +kernel
theorem dd_M_feed_45 : decode b_M_feed 45 = .ok (.goto 39, 3) := by decide +kernel
theorem dd_M_feed_48 : decode b_M_feed 48 = .ok (.iload 6, 2) := by decide +kernel
theorem dd_M_feed_50 : decode b_M_feed 50 = .ok (.bipush 8, 2) := by decide +kernel
theorem dd_M_feed_52 : decode b_M_feed 52 = .ok (.if_icmp .ge 7, 3) := by decide +kernel
theorem dd_M_feed_55 : decode b_M_feed 55 = .ok (.iload_n 2, 1) := by decide +kernel
theorem dd_M_feed_56 : decode b_M_feed 56 = .ok (.goto 28, 3) := by decide +kernel
theorem dd_M_feed_59 : decode b_M_feed 59 = .ok (.iload 6, 2) := by decide +kernel
theorem dd_M_feed_61 : decode b_M_feed 61 = .ok (.bipush 12, 2) := by decide +kernel
theorem dd_M_feed_63 : decode b_M_feed 63 = .ok (.if_icmp .ge 7, 3) := by decide +kernel
theorem dd_M_feed_66 : decode b_M_feed 66 = .ok (.iload_n 3, 1) := by decide +kernel
theorem dd_M_feed_67 : decode b_M_feed 67 = .ok (.goto 17, 3) := by decide +kernel
theorem dd_M_feed_70 : decode b_M_feed 70 = .ok (.iload 6, 2) := by decide +kernel
theorem dd_M_feed_72 : decode b_M_feed 72 = .ok (.bipush 16, 2) := by decide +kernel
theorem dd_M_feed_74 : decode b_M_feed 74 = .ok (.if_icmp .ge 8, 3) := by decide +kernel
theorem dd_M_feed_77 : decode b_M_feed 77 = .ok (.iload 4, 2) := by decide +kernel
theorem dd_M_feed_79 : decode b_M_feed 79 = .ok (.goto 5, 3) := by decide +kernel
theorem dd_M_feed_82 : decode b_M_feed 82 = .ok (.iload 5, 2) := by decide +kernel
theorem dd_M_feed_84 : decode b_M_feed 84 = .ok (.istore 7, 2) := by decide +kernel
theorem dd_M_feed_86 : decode b_M_feed 86 = .ok (.aload_n 0, 1) := by decide +kernel
theorem dd_M_feed_87 : decode b_M_feed 87 = .ok (.getfield 7, 3) := by decide +kernel
theorem dd_M_feed_90 : decode b_M_feed 90 = .ok (.aload_n 0, 1) := by decide +kernel
theorem dd_M_feed_91 : decode b_M_feed 91 = .ok (.getfield 60, 3) := by decide +kernel
theorem dd_M_feed_94 : decode b_M_feed 94 = .ok (.iload 6, 2) := by decide +kernel
theorem dd_M_feed_96 : decode b_M_feed 96 = .ok (.iadd, 1) := by decide +kernel
theorem dd_M_feed_97 : decode b_M_feed 97 = .ok (.iload 7, 2) := by decide +kernel
theorem dd_M_feed_99 : decode b_M_feed 99 = .ok (.bipush 24, 2) := by decide +kernel
theorem dd_M_feed_101 : decode b_M_feed 101 = .ok (.bipush 8, 2) := by decide +kernel
theorem dd_M_feed_103 : decode b_M_feed 103 = .ok (.iload 6, 2) := by decide +kernel
theorem dd_M_feed_105 : decode b_M_feed 105 = .ok (.iconst 4, 1) := by decide +kernel
theorem dd_M_feed_106 : decode b_M_feed 106 = .ok (.irem, 1) := by decide +kernel
theorem dd_M_feed_107 : decode b_M_feed 107 = .ok (.imul, 1) := by decide +kernel
theorem dd_M_feed_108 : decode b_M_feed 108 = .ok (.isub, 1) := by decide +kernel
theorem dd_M_feed_109 : decode b_M_feed 109 = .ok (.ishr, 1) := by decide +kernel
theorem dd_M_feed_110 : decode b_M_feed 110 = .ok (.i2b, 1) := by decide +kernel
theorem dd_M_feed_111 : decode b_M_feed 111 = .ok (.bastore, 1) := by decide +kernel
theorem dd_M_feed_112 : decode b_M_feed 112 = .ok (.iinc 6 1, 3) := by decide +kernel
theorem dd_M_feed_115 : decode b_M_feed 115 = .ok (.goto (-84), 3) := by decide +kernel
theorem dd_M_feed_118 : decode b_M_feed 118 = .ok (.aload_n 0, 1) := by decide +kernel
theorem dd_M_feed_119 : decode b_M_feed 119 = .ok (.aload_n 0, 1) := by decide +kernel
theorem dd_M_feed_120 : decode b_M_feed 120 = .ok (.getfield 60, 3) := by decide +kernel
theorem dd_M_feed_123 : decode b_M_feed 123 = .ok (.bipush 20, 2) := by decide +kernel
theorem dd_M_feed_125 : decode b_M_feed 125 = .ok (.iadd, 1) := by decide +kernel
theorem dd_M_feed_126 : decode b_M_feed 126 = .ok (.invokevirtual 74, 3) := by decide +kernel
theorem dd_M_feed_129 : decode b_M_feed 129 = .ok (.aload_n 0, 1) := by decide +kernel
theorem dd_M_feed_130 : decode b_M_feed 130 = .ok (.getfield 60, 3) := by decide +kernel
theorem dd_M_feed_133 : decode b_M_feed 133 = .ok (.ireturn, 1) := by decide +kernel
theorem dd_M_end_0 : decode b_M_end 0 = .ok (.aload_n 0, 1) := by decide +kernel
theorem dd_M_end_1 : decode b_M_end 1 = .ok (.iload_n 1, 1) := by decide +kernel
theorem dd_M_end_2 : decode b_M_end 2 = .ok (.ifCond .lt 11, 3) := by decide +kernel
theorem dd_M_end_5 : decode b_M_end 5 = .ok (.iload_n 1, 1) := by decide +kernel
theorem dd_M_end_6 : decode b_M_end 6 = .ok (.aload_n 0, 1) := by decide +kernel
theorem dd_M_end_7 : decode b_M_end 7 = .ok (.getfield 60, 3) := by decide +kernel
theorem dd_M_end_10 : decode b_M_end 10 = .ok (.if_icmp .le 7, 3) := by decide +kernel
theorem dd_M_end_13 : decode b_M_end 13 = .ok (.iconst 1, 1) := by decide +kernel
theorem dd_M_end_14 : decode b_M_end 14 = .ok (.goto 4, 3) := by decide +kernel
theorem dd_M_end_17 : decode b_M_end 17 = .ok (.iconst 0, 1) := by decide +kernel
theorem dd_M_end_18 : decode b_M_end 18 = .ok (.iconst 1, 1) := by decide +kernel
theorem dd_M_end_19 : decode b_M_end 19 = .ok (.invokevirtual 70, 3) := by decide +kernel
theorem dd_M_end_22 : decode b_M_end 22 = .ok (.ifCond .eq 4, 3) := by decide +kernel
theorem dd_M_end_25 : decode b_M_end 25 = .ok (.return_, 1) := by decide +kernel
theorem dd_M_end_26 : decode b_M_end 26 = .ok (.aload_n 0, 1) := by decide +kernel
theorem dd_M_end_27 : decode b_M_end 27 = .ok (.iload_n 1, 1) := by decide +kernel
theorem dd_M_end_28 : decode b_M_end 28 = .ok (.invokevirtual 74, 3) := by decide +kernel
theorem dd_M_end_31 : decode b_M_end 31 = .ok (.return_, 1) := by decide +kernel
theorem dd_M_findLines_0 : decode b_M_findLines 0 = .ok (.aload_n 0, 1) := by decide +kernel
theorem dd_M_findLines_1 : decode b_M_findLines 1 = .ok (.getfield 63, 3) := by decide +kernel
theorem dd_M_findLines_4 : decode b_M_findLines 4 = .ok (.ifCond .eq 4, 3) := by decide +kernel
theorem dd_M_findLines_7 : decode b_M_findLines 7 = .ok (.return_, 1) := by decide +kernel
theorem dd_M_findLines_8 : decode b_M_findLines 8 = .ok (.aload_n 0, 1) := by decide +kernel
theorem dd_M_findLines_9 : decode b_M_findLines 9 = .ok (.iconst 1, 1) := by decide +kernel
theorem dd_M_findLines_10 : decode b_M_findLines 10 = .ok (.putfield 63, 3) := by decide +kernel
theorem dd_M_findLines_13 : decode b_M_findLines 13 = .ok (.aload_n 0, 1) := by decide +kernel
theorem dd_M_findLines_14 : decode b_M_findLines 14 = .ok (.iconst 0, 1) := by decide +kernel
theorem dd_M_findLines_15 : decode b_M_findLines 15 = .ok (.putfield 78, 3) := by decide +kernel
theorem dd_M_findLines_18 : decode b_M_findLines 18 = .ok (.iconst 0, 1) := by decide +kernel
theorem dd_M_findLines_19 : decode b_M_findLines 19 = .ok (.istore_n 1, 1) := by decide +kernel
theorem dd_M_findLines_20 : decode b_M_findLines 20 = .ok (.iload_n 1, 1) := by decide +kernel
theorem dd_M_findLines_21 : decode b_M_findLines 21 = .ok (.aload_n 0, 1) := by decide +kernel
theorem dd_M_findLines_22 : decode b_M_findLines 22 = .ok (.getfield 60, 3) := by decide +kernel
theorem dd_M_findLines_25 : decode b_M_findLines 25 = .ok (.if_icmp .ge 54, 3) := by decide +kernel
theorem dd_M_findLines_28 : decode b_M_findLines 28 = .ok (.aload_n 0, 1) := by decide +kernel
theorem dd_M_findLines_29 : decode b_M_findLines 29 = .ok (.getfield 13, 3) := by decide +kernel
theorem dd_M_findLines_32 : decode b_M_findLines 32 = .ok (.aload_n 0, 1) := by decide +kernel
theorem dd_M_findLines_33 : decode b_M_findLines 33 = .ok (.getfield 78, 3) := by decide +kernel
theorem dd_M_findLines_36 : decode b_M_findLines 36 = .ok (.iload_n 1, 1) := by decide +kernel
theorem dd_M_findLines_37 : decode b_M_findLines 37 = .ok (.iastore, 1) := by decide +kernel
theorem dd_M_findLines_38 : decode b_M_findLines 38 = .ok (.aload_n 0, 1) := by decide +kernel
theorem dd_M_findLines_39 : decode b_M_findLines 39 = .ok (.dup, 1) := by decide +kernel
theorem dd_M_findLines_40 : decode b_M_findLines 40 = .ok (.getfield 78, 3) := by decide +kernel
theorem dd_M_findLines_43 : decode b_M_findLines 43 = .ok (.iconst 1, 1) := by decide +kernel
theorem dd_M_findLines_44 : decode b_M_findLines 44 = .ok (.iadd, 1) := by decide +kernel
theorem dd_M_findLines_45 : decode b_M_findLines 45 = .ok (.putfield 78, 3) := by decide +kernel
theorem dd_M_findLines_48 : decode b_M_findLines 48 = .ok (.iload_n 1, 1) := by decide +kernel
theorem dd_M_findLines_49 : decode b_M_findLines 49 = .ok (.aload_n 0, 1) := by decide +kernel
theorem dd_M_findLines_50 : decode b_M_findLines 50 = .ok (.getfield 60, 3) := by decide +kernel
theorem dd_M_findLines_53 : decode b_M_findLines 53 = .ok (.if_icmp .ge 20, 3) := by decide +kernel
theorem dd_M_findLines_56 : decode b_M_findLines 56 = .ok (.aload_n 0, 1) := by decide +kernel
theorem dd_M_findLines_57 : decode b_M_findLines 57 = .ok (.getfield 7, 3) := by decide +kernel
theorem dd_M_findLines_60 : decode b_M_findLines 60 = .ok (.iload_n 1, 1) := by decide +kernel
theorem dd_M_findLines_61 : decode b_M_findLines 61 = .ok (.baload, 1) := by decide +kernel
theorem dd_M_findLines_62 : decode b_M_findLines 62 = .ok (.bipush 10, 2) := by decide +kernel
theorem dd_M_findLines_64 : decode b_M_findLines 64 = .ok (.if_icmp .eq 9, 3) := by decide +kernel
theorem dd_M_findLines_67 : decode b_M_findLines 67 = .ok (.iinc 1 1, 3) := by decide +kernel
theorem dd_M_findLines_70 : decode b_M_findLines 70 = .ok (.goto (-22), 3) := by decide +kernel
theorem dd_M_findLines_73 : decode b_M_findLines 73 = .ok (.iinc 1 1, 3) := by decide +kernel
theorem dd_M_findLines_76 : decode b_M_findLines 76 = .ok (.goto (-56), 3) := by decide +kernel
theorem dd_M_findLines_79 : decode b_M_findLines 79 = .ok (.aload_n 0, 1) := by decide +kernel
theorem dd_M_findLines_80 : decode b_M_findLines 80 = .ok (.getfield 13, 3) := by decide +kernel
theorem dd_M_findLines_83 : decode b_M_findLines 83 = .ok (.aload_n 0, 1) := by decide +kernel
theorem dd_M_findLines_84 : decode b_M_findLines 84 = .ok (.getfield 78, 3) := by decide +kernel
theorem dd_M_findLines_87 : decode b_M_findLines 87 = .ok (.iload_n 1, 1) := by decide +kernel
theorem dd_M_findLines_88 : decode b_M_findLines 88 = .ok (.iastore, 1) := by decide +kernel
theorem dd_M_findLines_89 : decode b_M_findLines 89 = .ok (.return_, 1) := by decide +kernel
theorem dd_M_startOf_0 : decode b_M_startOf 0 = .ok (.aload_n 0, 1) := by decide +kernel
theorem dd_M_startOf_1 : decode b_M_startOf 1 = .ok (.getfield 13, 3) := by decide +kernel
theorem dd_M_startOf_4 : decode b_M_startOf 4 = .ok (.iload_n 1, 1) := by decide +kernel
theorem dd_M_startOf_5 : decode b_M_startOf 5 = .ok (.iaload, 1) := by decide +kernel
theorem dd_M_startOf_6 : decode b_M_startOf 6 = .ok (.ireturn, 1) := by decide +kernel
end
section
theorem dd_M_endOf_0 : decode b_M_endOf 0 = .ok (.aload_n 0, 1) := by decide +kernel
theorem dd_M_endOf_1 : decode b_M_endOf 1 = .ok (.getfield 13, 3) := by decide +kernel
theorem dd_M_endOf_4 : decode b_M_endOf 4 = .ok (.iload_n 1, 1) := by decide +kernel
theorem dd_M_endOf_5 : decode b_M_endOf 5 = .ok (.iconst 1, 1) := by decide +kernel
theorem dd_M_endOf_6 : decode b_M_endOf 6 = .ok (.iadd, 1) := by decide +kernel
theorem dd_M_endOf_7 : decode b_M_endOf 7 = .ok (.iaload, 1) := by decide +kernel
theorem dd_M_endOf_8 : decode b_M_endOf 8 = .ok (.iconst 1, 1) := by decide +kernel
theorem dd_M_endOf_9 : decode b_M_endOf 9 = .ok (.isub, 1) := by decide +kernel
theorem dd_M_endOf_10 : decode b_M_endOf 10 = .ok (.aload_n 0, 1) := by decide +kernel
theorem dd_M_endOf_11 : decode b_M_endOf 11 = .ok (.getfield 60, 3) := by decide +kernel
theorem dd_M_endOf_14 : decode b_M_endOf 14 = .ok (.if_icmp .ge 16, 3) := by decide +kernel
theorem dd_M_endOf_17 : decode b_M_endOf 17 = .ok (.aload_n 0, 1) := by decide +kernel
theorem dd_M_endOf_18 : decode b_M_endOf 18 = .ok (.getfield 13, 3) := by decide +kernel
theorem dd_M_endOf_21 : decode b_M_endOf 21 = .ok (.iload_n 1, 1) := by decide +kernel
theorem dd_M_endOf_22 : decode b_M_endOf 22 = .ok (.iconst 1, 1) := by decide +kernel
theorem dd_M_endOf_23 : decode b_M_endOf 23 = .ok (.iadd, 1) := by decide +kernel
theorem dd_M_endOf_24 : decode b_M_endOf 24 = .ok (.iaload, 1) := by decide +kernel
theorem dd_M_endOf_25 : decode b_M_endOf 25 = .ok (.iconst 1, 1) := by decide +kernel
theorem dd_M_endOf_26 : decode b_M_endOf 26 = .ok (.isub, 1) := by decide +kernel
theorem dd_M_endOf_27 : decode b_M_endOf 27 = .ok (.goto 7, 3) := by decide +kernel
theorem dd_M_endOf_30 : decode b_M_endOf 30 = .ok (.aload_n 0, 1) := by decide +kernel
theorem dd_M_endOf_31 : decode b_M_endOf 31 = .ok (.getfield 60, 3) := by decide +kernel
theorem dd_M_endOf_34 : decode b_M_endOf 34 = .ok (.ireturn, 1) := by decide +kernel
theorem dd_M_within_0 : decode b_M_within 0 = .ok (.iload_n 0, 1) := by decide +kernel
theorem dd_M_within_1 : decode b_M_within 1 = .ok (.iload_n 1, 1) := by decide +kernel
theorem dd_M_within_2 : decode b_M_within 2 = .ok (.if_icmp .lt 12, 3) := by decide +kernel
theorem dd_M_within_5 : decode b_M_within 5 = .ok (.iload_n 0, 1) := by decide +kernel
theorem dd_M_within_6 : decode b_M_within 6 = .ok (.iload_n 2, 1) := by decide +kernel
theorem dd_M_within_7 : decode b_M_within 7 = .ok (.if_icmp .gt 7, 3) := by decide +kernel
theorem dd_M_within_10 : decode b_M_within 10 = .ok (.iconst 1, 1) := by decide +kernel
theorem dd_M_within_11 : decode b_M_within 11 = .ok (.goto 4, 3) := by decide +kernel
theorem dd_M_within_14 : decode b_M_within 14 = .ok (.iconst 0, 1) := by decide +kernel
theorem dd_M_within_15 : decode b_M_within 15 = .ok (.ireturn, 1) := by decide +kernel
theorem dd_M_ways_0 : decode b_M_ways 0 = .ok (.aload_n 0, 1) := by decide +kernel
theorem dd_M_ways_1 : decode b_M_ways 1 = .ok (.iload_n 1, 1) := by decide +kernel
theorem dd_M_ways_2 : decode b_M_ways 2 = .ok (.iconst 0, 1) := by decide +kernel
theorem dd_M_ways_3 : decode b_M_ways 3 = .ok (.bipush 127, 2) := by decide +kernel
theorem dd_M_ways_5 : decode b_M_ways 5 = .ok (.invokestatic 81, 3) := by decide +kernel
theorem dd_M_ways_8 : decode b_M_ways 8 = .ok (.ifCond .ne 7, 3) := by decide +kernel
theorem dd_M_ways_11 : decode b_M_ways 11 = .ok (.iconst 1, 1) := by decide +kernel
theorem dd_M_ways_12 : decode b_M_ways 12 = .ok (.goto 4, 3) := by decide +kernel
theorem dd_M_ways_15 : decode b_M_ways 15 = .ok (.iconst 0, 1) := by decide +kernel
theorem dd_M_ways_16 : decode b_M_ways 16 = .ok (.iconst 1, 1) := by decide +kernel
theorem dd_M_ways_17 : decode b_M_ways 17 = .ok (.invokevirtual 70, 3) := by decide +kernel
theorem dd_M_ways_20 : decode b_M_ways 20 = .ok (.ifCond .eq 4, 3) := by decide +kernel
theorem dd_M_ways_23 : decode b_M_ways 23 = .ok (.return_, 1) := by decide +kernel
theorem dd_M_ways_24 : decode b_M_ways 24 = .ok (.aload_n 0, 1) := by decide +kernel
theorem dd_M_ways_25 : decode b_M_ways 25 = .ok (.iload_n 1, 1) := by decide +kernel
theorem dd_M_ways_26 : decode b_M_ways 26 = .ok (.putfield 85, 3) := by decide +kernel
theorem dd_M_ways_29 : decode b_M_ways 29 = .ok (.aload_n 0, 1) := by decide +kernel
theorem dd_M_ways_30 : decode b_M_ways 30 = .ok (.iload_n 2, 1) := by decide +kernel
theorem dd_M_ways_31 : decode b_M_ways 31 = .ok (.putfield 88, 3) := by decide +kernel
theorem dd_M_ways_34 : decode b_M_ways 34 = .ok (.aload_n 0, 1) := by decide +kernel
theorem dd_M_ways_35 : decode b_M_ways 35 = .ok (.iload_n 3, 1) := by decide +kernel
theorem dd_M_ways_36 : decode b_M_ways 36 = .ok (.putfield 91, 3) := by decide +kernel
theorem dd_M_ways_39 : decode b_M_ways 39 = .ok (.return_, 1) := by decide +kernel
theorem dd_M_separator_0 : decode b_M_separator 0 = .ok (.aload_n 0, 1) := by decide +kernel
theorem dd_M_separator_1 : decode b_M_separator 1 = .ok (.iload_n 1, 1) := by decide +kernel
theorem dd_M_separator_2 : decode b_M_separator 2 = .ok (.iconst (-1), 1) := by decide +kernel
theorem dd_M_separator_3 : decode b_M_separator 3 = .ok (.sipush 255, 3) := by decide +kernel
theorem dd_M_separator_6 : decode b_M_separator 6 = .ok (.invokestatic 81, 3) := by decide +kernel
theorem dd_M_separator_9 : decode b_M_separator 9 = .ok (.ifCond .eq 9, 3) := by decide +kernel
theorem dd_M_separator_12 : decode b_M_separator 12 = .ok (.iload_n 1, 1) := by decide +kernel
theorem dd_M_separator_13 : decode b_M_separator 13 = .ok (.bipush 10, 2) := by decide +kernel
theorem dd_M_separator_15 : decode b_M_separator 15 = .ok (.if_icmp .ne 7, 3) := by decide +kernel
theorem dd_M_separator_18 : decode b_M_separator 18 = .ok (.iconst 1, 1) := by decide +kernel
theorem dd_M_separator_19 : decode b_M_separator 19 = .ok (.goto 4, 3) := by decide +kernel
theorem dd_M_separator_22 : decode b_M_separator 22 = .ok (.iconst 0, 1) := by decide +kernel
theorem dd_M_separator_23 : decode b_M_separator 23 = .ok (.iconst 1, 1) := by decide +kernel
theorem dd_M_separator_24 : decode b_M_separator 24 = .ok (.invokevirtual 70, 3) := by decide +kernel
theorem dd_M_separator_27 : decode b_M_separator 27 = .ok (.ifCond .eq 4, 3) := by decide +kernel
theorem dd_M_separator_30 : decode b_M_separator 30 = .ok (.return_, 1) := by decide +kernel
theorem dd_M_separator_31 : decode b_M_separator 31 = .ok (.aload_n 0, 1) := by decide +kernel
theorem dd_M_separator_32 : decode b_M_separator 32 = .ok (.iload_n 1, 1) := by decide +kernel
theorem dd_M_separator_33 : decode b_M_separator 33 = .ok (.putfield 17, 3) := by decide +kernel
theorem dd_M_separator_36 : decode b_M_separator 36 = .ok (.return_, 1) := by decide +kernel
theorem dd_M_key_0 : decode b_M_key 0 = .ok (.iload_n 1, 1) := by decide +kernel
theorem dd_M_key_1 : decode b_M_key 1 = .ok (.iconst 1, 1) := by decide +kernel
theorem dd_M_key_2 : decode b_M_key 2 = .ok (.sipush 1000, 3) := by decide +kernel
theorem dd_M_key_5 : decode b_M_key 5 = .ok (.invokestatic 81, 3) := by decide +kernel
theorem dd_M_key_8 : decode b_M_key 8 = .ok (.ifCond .eq 52, 3) := by decide +kernel
theorem dd_M_key_11 : decode b_M_key 11 = .ok (.iload_n 2, 1) := by decide +kernel
theorem dd_M_key_12 : decode b_M_key 12 = .ok (.iconst 1, 1) := by decide +kernel
theorem dd_M_key_13 : decode b_M_key 13 = .ok (.sipush 1000, 3) := by decide +kernel
theorem dd_M_key_16 : decode b_M_key 16 = .ok (.invokestatic 81, 3) := by decide +kernel
theorem dd_M_key_19 : decode b_M_key 19 = .ok (.ifCond .eq 41, 3) := by decide +kernel
theorem dd_M_key_22 : decode b_M_key 22 = .ok (.iload_n 3, 1) := by decide +kernel
theorem dd_M_key_23 : decode b_M_key 23 = .ok (.iconst 0, 1) := by decide +kernel
theorem dd_M_key_24 : decode b_M_key 24 = .ok (.sipush 1000, 3) := by decide +kernel
theorem dd_M_key_27 : decode b_M_key 27 = .ok (.invokestatic 81, 3) := by decide +kernel
theorem dd_M_key_30 : decode b_M_key 30 = .ok (.ifCond .eq 30, 3) := by decide +kernel
theorem dd_M_key_33 : decode b_M_key 33 = .ok (.iload 4, 2) := by decide +kernel
theorem dd_M_key_35 : decode b_M_key 35 = .ok (.iconst 0, 1) := by decide +kernel
theorem dd_M_key_36 : decode b_M_key 36 = .ok (.sipush 1000, 3) := by decide +kernel
theorem dd_M_key_39 : decode b_M_key 39 = .ok (.invokestatic 81, 3) := by decide +kernel
theorem dd_M_key_42 : decode b_M_key 42 = .ok (.ifCond .eq 18, 3) := by decide +kernel
theorem dd_M_key_45 : decode b_M_key 45 = .ok (.iload 5, 2) := by decide +kernel
theorem dd_M_key_47 : decode b_M_key 47 = .ok (.iconst 0, 1) := by decide +kernel
theorem dd_M_key_48 : decode b_M_key 48 = .ok (.bipush 127, 2) := by decide +kernel
theorem dd_M_key_50 : decode b_M_key 50 = .ok (.invokestatic 81, 3) := by decide +kernel
theorem dd_M_key_53 : decode b_M_key 53 = .ok (.ifCond .eq 7, 3) := by decide +kernel
theorem dd_M_key_56 : decode b_M_key 56 = .ok (.iconst 1, 1) := by decide +kernel
theorem dd_M_key_57 : decode b_M_key 57 = .ok (.goto 4, 3) := by decide +kernel
theorem dd_M_key_60 : decode b_M_key 60 = .ok (.iconst 0, 1) := by decide +kernel
theorem dd_M_key_61 : decode b_M_key 61 = .ok (.istore 6, 2) := by decide +kernel
theorem dd_M_key_63 : decode b_M_key 63 = .ok (.aload_n 0, 1) := by decide +kernel
theorem dd_M_key_64 : decode b_M_key 64 = .ok (.iload 6, 2) := by decide +kernel
theorem dd_M_key_66 : decode b_M_key 66 = .ok (.ifCond .ne 7, 3) := by decide +kernel
theorem dd_M_key_69 : decode b_M_key 69 = .ok (.iconst 1, 1) := by decide +kernel
theorem dd_M_key_70 : decode b_M_key 70 = .ok (.goto 4, 3) := by decide +kernel
theorem dd_M_key_73 : decode b_M_key 73 = .ok (.iconst 0, 1) := by decide +kernel
theorem dd_M_key_74 : decode b_M_key 74 = .ok (.iconst 1, 1) := by decide +kernel
theorem dd_M_key_75 : decode b_M_key 75 = .ok (.invokevirtual 70, 3) := by decide +kernel
theorem dd_M_key_78 : decode b_M_key 78 = .ok (.ifCond .ne 25, 3) := by decide +kernel
theorem dd_M_key_81 : decode b_M_key 81 = .ok (.aload_n 0, 1) := by decide +kernel
theorem dd_M_key_82 : decode b_M_key 82 = .ok (.aload_n 0, 1) := by decide +kernel
theorem dd_M_key_83 : decode b_M_key 83 = .ok (.getfield 94, 3) := by decide +kernel
theorem dd_M_key_86 : decode b_M_key 86 = .ok (.bipush 6, 2) := by decide +kernel
theorem dd_M_key_88 : decode b_M_key 88 = .ok (.if_icmp .ne 7, 3) := by decide +kernel
theorem dd_M_key_91 : decode b_M_key 91 = .ok (.iconst 1, 1) := by decide +kernel
theorem dd_M_key_92 : decode b_M_key 92 = .ok (.goto 4, 3) := by decide +kernel
theorem dd_M_key_95 : decode b_M_key 95 = .ok (.iconst 0, 1) := by decide +kernel
theorem dd_M_key_96 : decode b_M_key 96 = .ok (.iconst 2, 1) := by decide +kernel
theorem dd_M_key_97 : decode b_M_key 97 = .ok (.invokevirtual 70, 3) := by decide +kernel
theorem dd_M_key_100 : decode b_M_key 100 = .ok (.ifCond .eq 5, 3) := by decide +kernel
theorem dd_M_key_103 : decode b_M_key 103 = .ok (.iconst 0, 1) := by decide +kernel
theorem dd_M_key_104 : decode b_M_key 104 = .ok (.ireturn, 1) := by decide +kernel
theorem dd_M_key_105 : decode b_M_key 105 = .ok (.aload_n 0, 1) := by decide +kernel
theorem dd_M_key_106 : decode b_M_key 106 = .ok (.getfield 21, 3) := by decide +kernel
theorem dd_M_key_109 : decode b_M_key 109 = .ok (.iconst 5, 1) := by decide +kernel
theorem dd_M_key_110 : decode b_M_key 110 = .ok (.aload_n 0, 1) := by decide +kernel
theorem dd_M_key_111 : decode b_M_key 111 = .ok (.getfield 94, 3) := by decide +kernel
theorem dd_M_key_114 : decode b_M_key 114 = .ok (.imul, 1) := by decide +kernel
theorem dd_M_key_115 : decode b_M_key 115 = .ok (.iload_n 1, 1) := by decide +kernel
theorem dd_M_key_116 : decode b_M_key 116 = .ok (.iastore, 1) := by decide +kernel
theorem dd_M_key_117 : decode b_M_key 117 = .ok (.aload_n 0, 1) := by decide +kernel
theorem dd_M_key_118 : decode b_M_key 118 = .ok (.getfield 21, 3) := by decide +kernel
theorem dd_M_key_121 : decode b_M_key 121 = .ok (.iconst 5, 1) := by decide +kernel
theorem dd_M_key_122 : decode b_M_key 122 = .ok (.aload_n 0, 1) := by decide +kernel
theorem dd_M_key_123 : decode b_M_key 123 = .ok (.getfield 94, 3) := by decide +kernel
theorem dd_M_key_126 : decode b_M_key 126 = .ok (.imul, 1) := by decide +kernel
theorem dd_M_key_127 : decode b_M_key 127 = .ok (.iconst 1, 1) := by decide +kernel
theorem dd_M_key_128 : decode b_M_key 128 = .ok (.iadd, 1) := by decide +kernel
theorem dd_M_key_129 : decode b_M_key 129 = .ok (.iload_n 2, 1) := by decide +kernel
theorem dd_M_key_130 : decode b_M_key 130 = .ok (.iastore, 1) := by decide +kernel
theorem dd_M_key_131 : decode b_M_key 131 = .ok (.aload_n 0, 1) := by decide +kernel
theorem dd_M_key_132 : decode b_M_key 132 = .ok (.getfield 21, 3) := by decide +kernel
theorem dd_M_key_135 : decode b_M_key 135 = .ok (.iconst 5, 1) := by decide +kernel
theorem dd_M_key_136 : decode b_M_key 136 = .ok (.aload_n 0, 1) := by decide +kernel
theorem dd_M_key_137 : decode b_M_key 137 = .ok (.getfield 94, 3) := by decide +kernel
theorem dd_M_key_140 : decode b_M_key 140 = .ok (.imul, 1) := by decide +kernel
theorem dd_M_key_141 : decode b_M_key 141 = .ok (.iconst 2, 1) := by decide +kernel
theorem dd_M_key_142 : decode b_M_key 142 = .ok (.iadd, 1) := by decide +kernel
theorem dd_M_key_143 : decode b_M_key 143 = .ok (.iload_n 3, 1) := by decide +kernel
theorem dd_M_key_144 : decode b_M_key 144 = .ok (.iastore, 1) := by decide +kernel
theorem dd_M_key_145 : decode b_M_key 145 = .ok (.aload_n 0, 1) := by decide +kernel
theorem dd_M_key_146 : decode b_M_key 146 = .ok (.getfield 21, 3) := by decide +kernel
theorem dd_M_key_149 : decode b_M_key 149 = .ok (.iconst 5, 1) := by decide +kernel
theorem dd_M_key_150 : decode b_M_key 150 = .ok (.aload_n 0, 1) := by decide +kernel
theorem dd_M_key_151 : decode b_M_key 151 = .ok (.getfield 94, 3) := by decide +kernel
theorem dd_M_key_154 : decode b_M_key 154 = .ok (.imul, 1) := by decide +kernel
theorem dd_M_key_155 : decode b_M_key 155 = .ok (.iconst 3, 1) := by decide +kernel
theorem dd_M_key_156 : decode b_M_key 156 = .ok (.iadd, 1) := by decide +kernel
theorem dd_M_key_157 : decode b_M_key 157 = .ok (.iload 4, 2) := by decide +kernel
theorem dd_M_key_159 : decode b_M_key 159 = .ok (.iastore, 1) := by decide +kernel
theorem dd_M_key_160 : decode b_M_key 160 = .ok (.aload_n 0, 1) := by decide +kernel
theorem dd_M_key_161 : decode b_M_key 161 = .ok (.getfield 21, 3) := by decide +kernel
theorem dd_M_key_164 : decode b_M_key 164 = .ok (.iconst 5, 1) := by decide +kernel
theorem dd_M_key_165 : decode b_M_key 165 = .ok (.aload_n 0, 1) := by decide +kernel
theorem dd_M_key_166 : decode b_M_key 166 = .ok (.getfield 94, 3) := by decide +kernel
theorem dd_M_key_169 : decode b_M_key 169 = .ok (.imul, 1) := by decide +kernel
theorem dd_M_key_170 : decode b_M_key 170 = .ok (.iconst 4, 1) := by decide +kernel
theorem dd_M_key_171 : decode b_M_key 171 = .ok (.iadd, 1) := by decide +kernel
theorem dd_M_key_172 : decode b_M_key 172 = .ok (.iload 5, 2) := by decide +kernel
theorem dd_M_key_174 : decode b_M_key 174 = .ok (.iastore, 1) := by decide +kernel
theorem dd_M_key_175 : decode b_M_key 175 = .ok (.aload_n 0, 1) := by decide +kernel
theorem dd_M_key_176 : decode b_M_key 176 = .ok (.dup, 1) := by decide +kernel
theorem dd_M_key_177 : decode b_M_key 177 = .ok (.getfield 94, 3) := by decide +kernel
theorem dd_M_key_180 : decode b_M_key 180 = .ok (.iconst 1, 1) := by decide +kernel
theorem dd_M_key_181 : decode b_M_key 181 = .ok (.iadd, 1) := by decide +kernel
theorem dd_M_key_182 : decode b_M_key 182 = .ok (.putfield 94, 3) := by decide +kernel
theorem dd_M_key_185 : decode b_M_key 185 = .ok (.aload_n 0, 1) := by decide +kernel
theorem dd_M_key_186 : decode b_M_key 186 = .ok (.getfield 94, 3) := by decide +kernel
theorem dd_M_key_189 : decode b_M_key 189 = .ok (.ireturn, 1) := by decide +kernel
theorem dd_M_keyless_0 : decode b_M_keyless 0 = .ok (.aload_n 0, 1) := by decide +kernel
theorem dd_M_keyless_1 : decode b_M_keyless 1 = .ok (.iconst 0, 1) := by decide +kernel
theorem dd_M_keyless_2 : decode b_M_keyless 2 = .ok (.putfield 57, 3) := by decide +kernel
theorem dd_M_keyless_5 : decode b_M_keyless 5 = .ok (.aload_n 0, 1) := by decide +kernel
theorem dd_M_keyless_6 : decode b_M_keyless 6 = .ok (.getfield 94, 3) := by decide +kernel
theorem dd_M_keyless_9 : decode b_M_keyless 9 = .ok (.istore_n 1, 1) := by decide +kernel
theorem dd_M_keyless_10 : decode b_M_keyless 10 = .ok (.aload_n 0, 1) := by decide +kernel
theorem dd_M_keyless_11 : decode b_M_keyless 11 = .ok (.iconst 0, 1) := by decide +kernel
theorem dd_M_keyless_12 : decode b_M_keyless 12 = .ok (.putfield 94, 3) := by decide +kernel
theorem dd_M_keyless_15 : decode b_M_keyless 15 = .ok (.iload_n 1, 1) := by decide +kernel
theorem dd_M_keyless_16 : decode b_M_keyless 16 = .ok (.ireturn, 1) := by decide +kernel
theorem dd_M_memory_0 : decode b_M_memory 0 = .ok (.aload_n 0, 1) := by decide +kernel
theorem dd_M_memory_1 : decode b_M_memory 1 = .ok (.iload_n 1, 1) := by decide +kernel
theorem dd_M_memory_2 : decode b_M_memory 2 = .ok (.iconst 2, 1) := by decide +kernel
theorem dd_M_memory_3 : decode b_M_memory 3 = .ok (.sipush 500, 3) := by decide +kernel
theorem dd_M_memory_6 : decode b_M_memory 6 = .ok (.invokestatic 81, 3) := by decide +kernel
theorem dd_M_memory_9 : decode b_M_memory 9 = .ok (.ifCond .eq 13, 3) := by decide +kernel
theorem dd_M_memory_12 : decode b_M_memory 12 = .ok (.iload_n 2, 1) := by decide +kernel
theorem dd_M_memory_13 : decode b_M_memory 13 = .ok (.iconst 2, 1) := by decide +kernel
theorem dd_M_memory_14 : decode b_M_memory 14 = .ok (.bipush 16, 2) := by decide +kernel
theorem dd_M_memory_16 : decode b_M_memory 16 = .ok (.invokestatic 81, 3) := by decide +kernel
theorem dd_M_memory_19 : decode b_M_memory 19 = .ok (.ifCond .ne 7, 3) := by decide +kernel
theorem dd_M_memory_22 : decode b_M_memory 22 = .ok (.iconst 1, 1) := by decide +kernel
theorem dd_M_memory_23 : decode b_M_memory 23 = .ok (.goto 4, 3) := by decide +kernel
theorem dd_M_memory_26 : decode b_M_memory 26 = .ok (.iconst 0, 1) := by decide +kernel
theorem dd_M_memory_27 : decode b_M_memory 27 = .ok (.iconst 1, 1) := by decide +kernel
theorem dd_M_memory_28 : decode b_M_memory 28 = .ok (.invokevirtual 70, 3) := by decide +kernel
theorem dd_M_memory_31 : decode b_M_memory 31 = .ok (.ifCond .eq 4, 3) := by decide +kernel
theorem dd_M_memory_34 : decode b_M_memory 34 = .ok (.return_, 1) := by decide +kernel
theorem dd_M_memory_35 : decode b_M_memory 35 = .ok (.aload_n 0, 1) := by decide +kernel
theorem dd_M_memory_36 : decode b_M_memory 36 = .ok (.iload_n 1, 1) := by decide +kernel
theorem dd_M_memory_37 : decode b_M_memory 37 = .ok (.putfield 24, 3) := by decide +kernel
theorem dd_M_memory_40 : decode b_M_memory 40 = .ok (.aload_n 0, 1) := by decide +kernel
theorem dd_M_memory_41 : decode b_M_memory 41 = .ok (.iload_n 2, 1) := by decide +kernel
theorem dd_M_memory_42 : decode b_M_memory 42 = .ok (.putfield 27, 3) := by decide +kernel
theorem dd_M_memory_45 : decode b_M_memory 45 = .ok (.return_, 1) := by decide +kernel
theorem dd_M_keysThere_0 : decode b_M_keysThere 0 = .ok (.aload_n 0, 1) := by decide +kernel
theorem dd_M_keysThere_1 : decode b_M_keysThere 1 = .ok (.getfield 94, 3) := by decide +kernel
theorem dd_M_keysThere_4 : decode b_M_keysThere 4 = .ok (.ifCond .ne 7, 3) := by decide +kernel
theorem dd_M_keysThere_7 : decode b_M_keysThere 7 = .ok (.iconst 1, 1) := by decide +kernel
theorem dd_M_keysThere_8 : decode b_M_keysThere 8 = .ok (.goto 7, 3) := by decide +kernel
theorem dd_M_keysThere_11 : decode b_M_keysThere 11 = .ok (.aload_n 0, 1) := by decide +kernel
theorem dd_M_keysThere_12 : decode b_M_keysThere 12 = .ok (.getfield 94, 3) := by decide +kernel
theorem dd_M_keysThere_15 : decode b_M_keysThere 15 = .ok (.ireturn, 1) := by decide +kernel
theorem dd_M_keyOf_0 : decode b_M_keyOf 0 = .ok (.aload_n 0, 1) := by decide +kernel
theorem dd_M_keyOf_1 : decode b_M_keyOf 1 = .ok (.getfield 94, 3) := by decide +kernel
theorem dd_M_keyOf_4 : decode b_M_keyOf 4 = .ok (.ifCond .ne 26, 3) := by decide +kernel
theorem dd_M_keyOf_7 : decode b_M_keyOf 7 = .ok (.iload_n 2, 1) := by decide +kernel
theorem dd_M_keyOf_8 : decode b_M_keyOf 8 = .ok (.iconst 2, 1) := by decide +kernel
theorem dd_M_keyOf_9 : decode b_M_keyOf 9 = .ok (.if_icmp .ge 7, 3) := by decide +kernel
theorem dd_M_keyOf_12 : decode b_M_keyOf 12 = .ok (.iconst 1, 1) := by decide +kernel
theorem dd_M_keyOf_13 : decode b_M_keyOf 13 = .ok (.goto 16, 3) := by decide +kernel
theorem dd_M_keyOf_16 : decode b_M_keyOf 16 = .ok (.iload_n 2, 1) := by decide +kernel
theorem dd_M_keyOf_17 : decode b_M_keyOf 17 = .ok (.iconst 4, 1) := by decide +kernel
theorem dd_M_keyOf_18 : decode b_M_keyOf 18 = .ok (.if_icmp .ne 10, 3) := by decide +kernel
theorem dd_M_keyOf_21 : decode b_M_keyOf 21 = .ok (.aload_n 0, 1) := by decide +kernel
theorem dd_M_keyOf_22 : decode b_M_keyOf 22 = .ok (.getfield 85, 3) := by decide +kernel
theorem dd_M_keyOf_25 : decode b_M_keyOf 25 = .ok (.goto 4, 3) := by decide +kernel
theorem dd_M_keyOf_28 : decode b_M_keyOf 28 = .ok (.iconst 0, 1) := by decide +kernel
theorem dd_M_keyOf_29 : decode b_M_keyOf 29 = .ok (.ireturn, 1) := by decide +kernel
theorem dd_M_keyOf_30 : decode b_M_keyOf 30 = .ok (.aload_n 0, 1) := by decide +kernel
theorem dd_M_keyOf_31 : decode b_M_keyOf 31 = .ok (.getfield 21, 3) := by decide +kernel
theorem dd_M_keyOf_34 : decode b_M_keyOf 34 = .ok (.iconst 5, 1) := by decide +kernel
theorem dd_M_keyOf_35 : decode b_M_keyOf 35 = .ok (.iload_n 1, 1) := by decide +kernel
theorem dd_M_keyOf_36 : decode b_M_keyOf 36 = .ok (.imul, 1) := by decide +kernel
theorem dd_M_keyOf_37 : decode b_M_keyOf 37 = .ok (.iload_n 2, 1) := by decide +kernel
theorem dd_M_keyOf_38 : decode b_M_keyOf 38 = .ok (.iadd, 1) := by decide +kernel
theorem dd_M_keyOf_39 : decode b_M_keyOf 39 = .ok (.iaload, 1) := by decide +kernel
theorem dd_M_keyOf_40 : decode b_M_keyOf 40 = .ok (.istore_n 3, 1) := by decide +kernel
theorem dd_M_keyOf_41 : decode b_M_keyOf 41 = .ok (.iload_n 2, 1) := by decide +kernel
theorem dd_M_keyOf_42 : decode b_M_keyOf 42 = .ok (.iconst 4, 1) := by decide +kernel
theorem dd_M_keyOf_43 : decode b_M_keyOf 43 = .ok (.if_icmp .ne 14, 3) := by decide +kernel
theorem dd_M_keyOf_46 : decode b_M_keyOf 46 = .ok (.iload_n 3, 1) := by decide +kernel
theorem dd_M_keyOf_47 : decode b_M_keyOf 47 = .ok (.ifCond .ne 10, 3) := by decide +kernel
theorem dd_M_keyOf_50 : decode b_M_keyOf 50 = .ok (.aload_n 0, 1) := by decide +kernel
theorem dd_M_keyOf_51 : decode b_M_keyOf 51 = .ok (.getfield 85, 3) := by decide +kernel
theorem dd_M_keyOf_54 : decode b_M_keyOf 54 = .ok (.goto 4, 3) := by decide +kernel
theorem dd_M_keyOf_57 : decode b_M_keyOf 57 = .ok (.iload_n 3, 1) := by decide +kernel
theorem dd_M_keyOf_58 : decode b_M_keyOf 58 = .ok (.ireturn, 1) := by decide +kernel
theorem dd_M_isBlank_0 : decode b_M_isBlank 0 = .ok (.aload_n 0, 1) := by decide +kernel
theorem dd_M_isBlank_1 : decode b_M_isBlank 1 = .ok (.getfield 7, 3) := by decide +kernel
theorem dd_M_isBlank_4 : decode b_M_isBlank 4 = .ok (.iload_n 1, 1) := by decide +kernel
theorem dd_M_isBlank_5 : decode b_M_isBlank 5 = .ok (.baload, 1) := by decide +kernel
theorem dd_M_isBlank_6 : decode b_M_isBlank 6 = .ok (.bipush 32, 2) := by decide +kernel
theorem dd_M_isBlank_8 : decode b_M_isBlank 8 = .ok (.if_icmp .eq 14, 3) := by decide +kernel
theorem dd_M_isBlank_11 : decode b_M_isBlank 11 = .ok (.aload_n 0, 1) := by decide +kernel
theorem dd_M_isBlank_12 : decode b_M_isBlank 12 = .ok (.getfield 7, 3) := by decide +kernel
theorem dd_M_isBlank_15 : decode b_M_isBlank 15 = .ok (.iload_n 1, 1) := by decide +kernel
theorem dd_M_isBlank_16 : decode b_M_isBlank 16 = .ok (.baload, 1) := by decide +kernel
theorem dd_M_isBlank_17 : decode b_M_isBlank 17 = .ok (.bipush 9, 2) := by decide +kernel
theorem dd_M_isBlank_19 : decode b_M_isBlank 19 = .ok (.if_icmp .ne 7, 3) := by decide +kernel
theorem dd_M_isBlank_22 : decode b_M_isBlank 22 = .ok (.iconst 1, 1) := by decide +kernel
theorem dd_M_isBlank_23 : decode b_M_isBlank 23 = .ok (.goto 4, 3) := by decide +kernel
theorem dd_M_isBlank_26 : decode b_M_isBlank 26 = .ok (.iconst 0, 1) := by decide +kernel
theorem dd_M_isBlank_27 : decode b_M_isBlank 27 = .ok (.ireturn, 1) := by decide +kernel
theorem dd_M_find_0 : decode b_M_find 0 = .ok (.aload_n 0, 1) := by decide +kernel
theorem dd_M_find_1 : decode b_M_find 1 = .ok (.iload_n 1, 1) := by decide +kernel
theorem dd_M_find_2 : decode b_M_find 2 = .ok (.invokevirtual 97, 3) := by decide +kernel
theorem dd_M_find_5 : decode b_M_find 5 = .ok (.istore_n 3, 1) := by decide +kernel
theorem dd_M_find_6 : decode b_M_find 6 = .ok (.aload_n 0, 1) := by decide +kernel
theorem dd_M_find_7 : decode b_M_find 7 = .ok (.iload_n 1, 1) := by decide +kernel
theorem dd_M_find_8 : decode b_M_find 8 = .ok (.invokevirtual 101, 3) := by decide +kernel
theorem dd_M_find_11 : decode b_M_find 11 = .ok (.istore 4, 2) := by decide +kernel
theorem dd_M_find_13 : decode b_M_find 13 = .ok (.iconst 0, 1) := by decide +kernel
theorem dd_M_find_14 : decode b_M_find 14 = .ok (.istore 5, 2) := by decide +kernel
theorem dd_M_find_16 : decode b_M_find 16 = .ok (.aload_n 0, 1) := by decide +kernel
theorem dd_M_find_17 : decode b_M_find 17 = .ok (.getfield 17, 3) := by decide +kernel
theorem dd_M_find_20 : decode b_M_find 20 = .ok (.iconst (-1), 1) := by decide +kernel
theorem dd_M_find_21 : decode b_M_find 21 = .ok (.if_icmp .ne 9, 3) := by decide +kernel
theorem dd_M_find_24 : decode b_M_find 24 = .ok (.iload 4, 2) := by decide +kernel
theorem dd_M_find_26 : decode b_M_find 26 = .ok (.iload_n 3, 1) := by decide +kernel
theorem dd_M_find_27 : decode b_M_find 27 = .ok (.if_icmp .ge 7, 3) := by decide +kernel
theorem dd_M_find_30 : decode b_M_find 30 = .ok (.iconst 1, 1) := by decide +kernel
theorem dd_M_find_31 : decode b_M_find 31 = .ok (.goto 4, 3) := by decide +kernel
theorem dd_M_find_34 : decode b_M_find 34 = .ok (.iconst 0, 1) := by decide +kernel
theorem dd_M_find_35 : decode b_M_find 35 = .ok (.istore 6, 2) := by decide +kernel
theorem dd_M_find_37 : decode b_M_find 37 = .ok (.iload 6, 2) := by decide +kernel
theorem dd_M_find_39 : decode b_M_find 39 = .ok (.ifCond .eq 144, 3) := by decide +kernel
theorem dd_M_find_42 : decode b_M_find 42 = .ok (.iinc 5 1, 3) := by decide +kernel
theorem dd_M_find_45 : decode b_M_find 45 = .ok (.aload_n 0, 1) := by decide +kernel
theorem dd_M_find_46 : decode b_M_find 46 = .ok (.iload 4, 2) := by decide +kernel
theorem dd_M_find_48 : decode b_M_find 48 = .ok (.putfield 104, 3) := by decide +kernel
theorem dd_M_find_51 : decode b_M_find 51 = .ok (.aload_n 0, 1) := by decide +kernel
theorem dd_M_find_52 : decode b_M_find 52 = .ok (.getfield 17, 3) := by decide +kernel
theorem dd_M_find_55 : decode b_M_find 55 = .ok (.iconst (-1), 1) := by decide +kernel
theorem dd_M_find_56 : decode b_M_find 56 = .ok (.if_icmp .eq 58, 3) := by decide +kernel
theorem dd_M_find_59 : decode b_M_find 59 = .ok (.iload 4, 2) := by decide +kernel
theorem dd_M_find_61 : decode b_M_find 61 = .ok (.iload_n 3, 1) := by decide +kernel
theorem dd_M_find_62 : decode b_M_find 62 = .ok (.if_icmp .ge 27, 3) := by decide +kernel
theorem dd_M_find_65 : decode b_M_find 65 = .ok (.aload_n 0, 1) := by decide +kernel
theorem dd_M_find_66 : decode b_M_find 66 = .ok (.getfield 7, 3) := by decide +kernel
theorem dd_M_find_69 : decode b_M_find 69 = .ok (.iload 4, 2) := by decide +kernel
theorem dd_M_find_71 : decode b_M_find 71 = .ok (.baload, 1) := by decide +kernel
theorem dd_M_find_72 : decode b_M_find 72 = .ok (.sipush 255, 3) := by decide +kernel
theorem dd_M_find_75 : decode b_M_find 75 = .ok (.iand, 1) := by decide +kernel
theorem dd_M_find_76 : decode b_M_find 76 = .ok (.aload_n 0, 1) := by decide +kernel
theorem dd_M_find_77 : decode b_M_find 77 = .ok (.getfield 17, 3) := by decide +kernel
theorem dd_M_find_80 : decode b_M_find 80 = .ok (.if_icmp .eq 9, 3) := by decide +kernel
theorem dd_M_find_83 : decode b_M_find 83 = .ok (.iinc 4 1, 3) := by decide +kernel
theorem dd_M_find_86 : decode b_M_find 86 = .ok (.goto (-27), 3) := by decide +kernel
theorem dd_M_find_89 : decode b_M_find 89 = .ok (.aload_n 0, 1) := by decide +kernel
theorem dd_M_find_90 : decode b_M_find 90 = .ok (.iload 4, 2) := by decide +kernel
theorem dd_M_find_92 : decode b_M_find 92 = .ok (.putfield 107, 3) := by decide +kernel
theorem dd_M_find_95 : decode b_M_find 95 = .ok (.iload 4, 2) := by decide +kernel
theorem dd_M_find_97 : decode b_M_find 97 = .ok (.iload_n 3, 1) := by decide +kernel
theorem dd_M_find_98 : decode b_M_find 98 = .ok (.if_icmp .ge 7, 3) := by decide +kernel
theorem dd_M_find_101 : decode b_M_find 101 = .ok (.iconst 1, 1) := by decide +kernel
theorem dd_M_find_102 : decode b_M_find 102 = .ok (.goto 4, 3) := by decide +kernel
theorem dd_M_find_105 : decode b_M_find 105 = .ok (.iconst 0, 1) := by decide +kernel
theorem dd_M_find_106 : decode b_M_find 106 = .ok (.istore 6, 2) := by decide +kernel
theorem dd_M_find_108 : decode b_M_find 108 = .ok (.iinc 4 1, 3) := by decide +kernel
theorem dd_M_find_111 : decode b_M_find 111 = .ok (.goto 64, 3) := by decide +kernel
theorem dd_M_find_114 : decode b_M_find 114 = .ok (.iload 4, 2) := by decide +kernel
theorem dd_M_find_116 : decode b_M_find 116 = .ok (.iload_n 3, 1) := by decide +kernel
theorem dd_M_find_117 : decode b_M_find 117 = .ok (.if_icmp .ge 18, 3) := by decide +kernel
theorem dd_M_find_120 : decode b_M_find 120 = .ok (.aload_n 0, 1) := by decide +kernel
theorem dd_M_find_121 : decode b_M_find 121 = .ok (.iload 4, 2) := by decide +kernel
theorem dd_M_find_123 : decode b_M_find 123 = .ok (.invokevirtual 110, 3) := by decide +kernel
theorem dd_M_find_126 : decode b_M_find 126 = .ok (.ifCond .eq 9, 3) := by decide +kernel
theorem dd_M_find_129 : decode b_M_find 129 = .ok (.iinc 4 1, 3) := by decide +kernel
theorem dd_M_find_132 : decode b_M_find 132 = .ok (.goto (-18), 3) := by decide +kernel
theorem dd_M_find_135 : decode b_M_find 135 = .ok (.iload 4, 2) := by decide +kernel
theorem dd_M_find_137 : decode b_M_find 137 = .ok (.iload_n 3, 1) := by decide +kernel
theorem dd_M_find_138 : decode b_M_find 138 = .ok (.if_icmp .ge 18, 3) := by decide +kernel
theorem dd_M_find_141 : decode b_M_find 141 = .ok (.aload_n 0, 1) := by decide +kernel
theorem dd_M_find_142 : decode b_M_find 142 = .ok (.iload 4, 2) := by decide +kernel
theorem dd_M_find_144 : decode b_M_find 144 = .ok (.invokevirtual 110, 3) := by decide +kernel
theorem dd_M_find_147 : decode b_M_find 147 = .ok (.ifCond .ne 9, 3) := by decide +kernel
theorem dd_M_find_150 : decode b_M_find 150 = .ok (.iinc 4 1, 3) := by decide +kernel
theorem dd_M_find_153 : decode b_M_find 153 = .ok (.goto (-18), 3) := by decide +kernel
theorem dd_M_find_156 : decode b_M_find 156 = .ok (.aload_n 0, 1) := by decide +kernel
theorem dd_M_find_157 : decode b_M_find 157 = .ok (.iload 4, 2) := by decide +kernel
theorem dd_M_find_159 : decode b_M_find 159 = .ok (.putfield 107, 3) := by decide +kernel
theorem dd_M_find_162 : decode b_M_find 162 = .ok (.iload 4, 2) := by decide +kernel
theorem dd_M_find_164 : decode b_M_find 164 = .ok (.iload_n 3, 1) := by decide +kernel
theorem dd_M_find_165 : decode b_M_find 165 = .ok (.if_icmp .ge 7, 3) := by decide +kernel
theorem dd_M_find_168 : decode b_M_find 168 = .ok (.iconst 1, 1) := by decide +kernel
theorem dd_M_find_169 : decode b_M_find 169 = .ok (.goto 4, 3) := by decide +kernel
theorem dd_M_find_172 : decode b_M_find 172 = .ok (.iconst 0, 1) := by decide +kernel
theorem dd_M_find_173 : decode b_M_find 173 = .ok (.istore 6, 2) := by decide +kernel
theorem dd_M_find_175 : decode b_M_find 175 = .ok (.iload 5, 2) := by decide +kernel
theorem dd_M_find_177 : decode b_M_find 177 = .ok (.iload_n 2, 1) := by decide +kernel
theorem dd_M_find_178 : decode b_M_find 178 = .ok (.if_icmp .ne (-141), 3) := by decide +kernel
theorem dd_M_find_181 : decode b_M_find 181 = .ok (.iconst 1, 1) := by decide +kernel
theorem dd_M_find_182 : decode b_M_find 182 = .ok (.ireturn, 1) := by decide +kernel
theorem dd_M_find_183 : decode b_M_find 183 = .ok (.iconst 0, 1) := by decide +kernel
theorem dd_M_find_184 : decode b_M_find 184 = .ok (.ireturn, 1) := by decide +kernel
theorem dd_M_begin_0 : decode b_M_begin 0 = .ok (.aload_n 0, 1) := by decide +kernel
theorem dd_M_begin_1 : decode b_M_begin 1 = .ok (.getfield 17, 3) := by decide +kernel
theorem dd_M_begin_4 : decode b_M_begin 4 = .ok (.iconst (-1), 1) := by decide +kernel
theorem dd_M_begin_5 : decode b_M_begin 5 = .ok (.if_icmp .eq 10, 3) := by decide +kernel
theorem dd_M_begin_8 : decode b_M_begin 8 = .ok (.aload_n 0, 1) := by decide +kernel
theorem dd_M_begin_9 : decode b_M_begin 9 = .ok (.getfield 107, 3) := by decide +kernel
theorem dd_M_begin_12 : decode b_M_begin 12 = .ok (.goto 8, 3) := by decide +kernel
theorem dd_M_begin_15 : decode b_M_begin 15 = .ok (.aload_n 0, 1) := by decide +kernel
theorem dd_M_begin_16 : decode b_M_begin 16 = .ok (.iload_n 1, 1) := by decide +kernel
theorem dd_M_begin_17 : decode b_M_begin 17 = .ok (.invokevirtual 97, 3) := by decide +kernel
theorem dd_M_begin_20 : decode b_M_begin 20 = .ok (.istore_n 3, 1) := by decide +kernel
theorem dd_M_begin_21 : decode b_M_begin 21 = .ok (.aload_n 0, 1) := by decide +kernel
theorem dd_M_begin_22 : decode b_M_begin 22 = .ok (.getfield 104, 3) := by decide +kernel
theorem dd_M_begin_25 : decode b_M_begin 25 = .ok (.istore 4, 2) := by decide +kernel
theorem dd_M_begin_27 : decode b_M_begin 27 = .ok (.iload_n 2, 1) := by decide +kernel
theorem dd_M_begin_28 : decode b_M_begin 28 = .ok (.ifCond .eq 24, 3) := by decide +kernel
theorem dd_M_begin_31 : decode b_M_begin 31 = .ok (.iload 4, 2) := by decide +kernel
theorem dd_M_begin_33 : decode b_M_begin 33 = .ok (.iload_n 3, 1) := by decide +kernel
theorem dd_M_begin_34 : decode b_M_begin 34 = .ok (.if_icmp .ge 18, 3) := by decide +kernel
theorem dd_M_begin_37 : decode b_M_begin 37 = .ok (.aload_n 0, 1) := by decide +kernel
theorem dd_M_begin_38 : decode b_M_begin 38 = .ok (.iload 4, 2) := by decide +kernel
theorem dd_M_begin_40 : decode b_M_begin 40 = .ok (.invokevirtual 110, 3) := by decide +kernel
theorem dd_M_begin_43 : decode b_M_begin 43 = .ok (.ifCond .eq 9, 3) := by decide +kernel
theorem dd_M_begin_46 : decode b_M_begin 46 = .ok (.iinc 4 1, 3) := by decide +kernel
theorem dd_M_begin_49 : decode b_M_begin 49 = .ok (.goto (-22), 3) := by decide +kernel
theorem dd_M_begin_52 : decode b_M_begin 52 = .ok (.iload 4, 2) := by decide +kernel
theorem dd_M_begin_54 : decode b_M_begin 54 = .ok (.ireturn, 1) := by decide +kernel
theorem dd_M_keyBegin_0 : decode b_M_keyBegin 0 = .ok (.aload_n 0, 1) := by decide +kernel
theorem dd_M_keyBegin_1 : decode b_M_keyBegin 1 = .ok (.iload_n 1, 1) := by decide +kernel
theorem dd_M_keyBegin_2 : decode b_M_keyBegin 2 = .ok (.invokevirtual 97, 3) := by decide +kernel
theorem dd_M_keyBegin_5 : decode b_M_keyBegin 5 = .ok (.istore_n 3, 1) := by decide +kernel
theorem dd_M_keyBegin_6 : decode b_M_keyBegin 6 = .ok (.aload_n 0, 1) := by decide +kernel
theorem dd_M_keyBegin_7 : decode b_M_keyBegin 7 = .ok (.iload_n 1, 1) := by decide +kernel
theorem dd_M_keyBegin_8 : decode b_M_keyBegin 8 = .ok (.aload_n 0, 1) := by decide +kernel
theorem dd_M_keyBegin_9 : decode b_M_keyBegin 9 = .ok (.iload_n 2, 1) := by decide +kernel
theorem dd_M_keyBegin_10 : decode b_M_keyBegin 10 = .ok (.iconst 0, 1) := by decide +kernel
theorem dd_M_keyBegin_11 : decode b_M_keyBegin 11 = .ok (.invokevirtual 114, 3) := by decide +kernel
theorem dd_M_keyBegin_14 : decode b_M_keyBegin 14 = .ok (.invokevirtual 118, 3) := by decide +kernel
theorem dd_M_keyBegin_17 : decode b_M_keyBegin 17 = .ok (.ifCond .ne 5, 3) := by decide +kernel
theorem dd_M_keyBegin_20 : decode b_M_keyBegin 20 = .ok (.iload_n 3, 1) := by decide +kernel
theorem dd_M_keyBegin_21 : decode b_M_keyBegin 21 = .ok (.ireturn, 1) := by decide +kernel
theorem dd_M_keyBegin_22 : decode b_M_keyBegin 22 = .ok (.aload_n 0, 1) := by decide +kernel
theorem dd_M_keyBegin_23 : decode b_M_keyBegin 23 = .ok (.iload_n 1, 1) := by decide +kernel
theorem dd_M_keyBegin_24 : decode b_M_keyBegin 24 = .ok (.aload_n 0, 1) := by decide +kernel
theorem dd_M_keyBegin_25 : decode b_M_keyBegin 25 = .ok (.iload_n 2, 1) := by decide +kernel
theorem dd_M_keyBegin_26 : decode b_M_keyBegin 26 = .ok (.iconst 4, 1) := by decide +kernel
theorem dd_M_keyBegin_27 : decode b_M_keyBegin 27 = .ok (.invokevirtual 114, 3) := by decide +kernel
theorem dd_M_keyBegin_30 : decode b_M_keyBegin 30 = .ok (.iconst 1, 1) := by decide +kernel
theorem dd_M_keyBegin_31 : decode b_M_keyBegin 31 = .ok (.iand, 1) := by decide +kernel
theorem dd_M_keyBegin_32 : decode b_M_keyBegin 32 = .ok (.ifCond .le 7, 3) := by decide +kernel
theorem dd_M_keyBegin_35 : decode b_M_keyBegin 35 = .ok (.iconst 1, 1) := by decide +kernel
theorem dd_M_keyBegin_36 : decode b_M_keyBegin 36 = .ok (.goto 4, 3) := by decide +kernel
theorem dd_M_keyBegin_39 : decode b_M_keyBegin 39 = .ok (.iconst 0, 1) := by decide +kernel
theorem dd_M_keyBegin_40 : decode b_M_keyBegin 40 = .ok (.invokevirtual 122, 3) := by decide +kernel
theorem dd_M_keyBegin_43 : decode b_M_keyBegin 43 = .ok (.aload_n 0, 1) := by decide +kernel
theorem dd_M_keyBegin_44 : decode b_M_keyBegin 44 = .ok (.iload_n 2, 1) := by decide +kernel
theorem dd_M_keyBegin_45 : decode b_M_keyBegin 45 = .ok (.iconst 1, 1) := by decide +kernel
theorem dd_M_keyBegin_46 : decode b_M_keyBegin 46 = .ok (.invokevirtual 114, 3) := by decide +kernel
theorem dd_M_keyBegin_49 : decode b_M_keyBegin 49 = .ok (.iadd, 1) := by decide +kernel
theorem dd_M_keyBegin_50 : decode b_M_keyBegin 50 = .ok (.iconst 1, 1) := by decide +kernel
theorem dd_M_keyBegin_51 : decode b_M_keyBegin 51 = .ok (.isub, 1) := by decide +kernel
theorem dd_M_keyBegin_52 : decode b_M_keyBegin 52 = .ok (.istore 4, 2) := by decide +kernel
theorem dd_M_keyBegin_54 : decode b_M_keyBegin 54 = .ok (.iload 4, 2) := by decide +kernel
theorem dd_M_keyBegin_56 : decode b_M_keyBegin 56 = .ok (.iload_n 3, 1) := by decide +kernel
theorem dd_M_keyBegin_57 : decode b_M_keyBegin 57 = .ok (.if_icmp .ge 8, 3) := by decide +kernel
theorem dd_M_keyBegin_60 : decode b_M_keyBegin 60 = .ok (.iload 4, 2) := by decide +kernel
theorem dd_M_keyBegin_62 : decode b_M_keyBegin 62 = .ok (.goto 4, 3) := by decide +kernel
theorem dd_M_keyBegin_65 : decode b_M_keyBegin 65 = .ok (.iload_n 3, 1) := by decide +kernel
theorem dd_M_keyBegin_66 : decode b_M_keyBegin 66 = .ok (.ireturn, 1) := by decide +kernel
theorem dd_M_keyEnd_0 : decode b_M_keyEnd 0 = .ok (.aload_n 0, 1) := by decide +kernel
theorem dd_M_keyEnd_1 : decode b_M_keyEnd 1 = .ok (.iload_n 1, 1) := by decide +kernel
theorem dd_M_keyEnd_2 : decode b_M_keyEnd 2 = .ok (.invokevirtual 97, 3) := by decide +kernel
theorem dd_M_keyEnd_5 : decode b_M_keyEnd 5 = .ok (.istore_n 3, 1) := by decide +kernel
theorem dd_M_keyEnd_6 : decode b_M_keyEnd 6 = .ok (.aload_n 0, 1) := by decide +kernel
theorem dd_M_keyEnd_7 : decode b_M_keyEnd 7 = .ok (.iload_n 2, 1) := by decide +kernel
theorem dd_M_keyEnd_8 : decode b_M_keyEnd 8 = .ok (.iconst 2, 1) := by decide +kernel
theorem dd_M_keyEnd_9 : decode b_M_keyEnd 9 = .ok (.invokevirtual 114, 3) := by decide +kernel
theorem dd_M_keyEnd_12 : decode b_M_keyEnd 12 = .ok (.istore 4, 2) := by decide +kernel
theorem dd_M_keyEnd_14 : decode b_M_keyEnd 14 = .ok (.iload 4, 2) := by decide +kernel
theorem dd_M_keyEnd_16 : decode b_M_keyEnd 16 = .ok (.ifCond .eq 13, 3) := by decide +kernel
theorem dd_M_keyEnd_19 : decode b_M_keyEnd 19 = .ok (.aload_n 0, 1) := by decide +kernel
theorem dd_M_keyEnd_20 : decode b_M_keyEnd 20 = .ok (.iload_n 1, 1) := by decide +kernel
theorem dd_M_keyEnd_21 : decode b_M_keyEnd 21 = .ok (.iload 4, 2) := by decide +kernel
theorem dd_M_keyEnd_23 : decode b_M_keyEnd 23 = .ok (.invokevirtual 118, 3) := by decide +kernel
theorem dd_M_keyEnd_26 : decode b_M_keyEnd 26 = .ok (.ifCond .ne 5, 3) := by decide +kernel
theorem dd_M_keyEnd_29 : decode b_M_keyEnd 29 = .ok (.iload_n 3, 1) := by decide +kernel
theorem dd_M_keyEnd_30 : decode b_M_keyEnd 30 = .ok (.ireturn, 1) := by decide +kernel
theorem dd_M_keyEnd_31 : decode b_M_keyEnd 31 = .ok (.aload_n 0, 1) := by decide +kernel
theorem dd_M_keyEnd_32 : decode b_M_keyEnd 32 = .ok (.iload_n 2, 1) := by decide +kernel
theorem dd_M_keyEnd_33 : decode b_M_keyEnd 33 = .ok (.iconst 3, 1) := by decide +kernel
theorem dd_M_keyEnd_34 : decode b_M_keyEnd 34 = .ok (.invokevirtual 114, 3) := by decide +kernel
theorem dd_M_keyEnd_37 : decode b_M_keyEnd 37 = .ok (.ifCond .ne 8, 3) := by decide +kernel
theorem dd_M_keyEnd_40 : decode b_M_keyEnd 40 = .ok (.aload_n 0, 1) := by decide +kernel
theorem dd_M_keyEnd_41 : decode b_M_keyEnd 41 = .ok (.getfield 107, 3) := by decide +kernel
theorem dd_M_keyEnd_44 : decode b_M_keyEnd 44 = .ok (.ireturn, 1) := by decide +kernel
theorem dd_M_keyEnd_45 : decode b_M_keyEnd 45 = .ok (.aload_n 0, 1) := by decide +kernel
theorem dd_M_keyEnd_46 : decode b_M_keyEnd 46 = .ok (.iload_n 1, 1) := by decide +kernel
theorem dd_M_keyEnd_47 : decode b_M_keyEnd 47 = .ok (.aload_n 0, 1) := by decide +kernel
theorem dd_M_keyEnd_48 : decode b_M_keyEnd 48 = .ok (.iload_n 2, 1) := by decide +kernel
theorem dd_M_keyEnd_49 : decode b_M_keyEnd 49 = .ok (.iconst 4, 1) := by decide +kernel
theorem dd_M_keyEnd_50 : decode b_M_keyEnd 50 = .ok (.invokevirtual 114, 3) := by decide +kernel
theorem dd_M_keyEnd_53 : decode b_M_keyEnd 53 = .ok (.bipush 64, 2) := by decide +kernel
theorem dd_M_keyEnd_55 : decode b_M_keyEnd 55 = .ok (.iand, 1) := by decide +kernel
theorem dd_M_keyEnd_56 : decode b_M_keyEnd 56 = .ok (.ifCond .le 7, 3) := by decide +kernel
theorem dd_M_keyEnd_59 : decode b_M_keyEnd 59 = .ok (.iconst 1, 1) := by decide +kernel
theorem dd_M_keyEnd_60 : decode b_M_keyEnd 60 = .ok (.goto 4, 3) := by decide +kernel
theorem dd_M_keyEnd_63 : decode b_M_keyEnd 63 = .ok (.iconst 0, 1) := by decide +kernel
theorem dd_M_keyEnd_64 : decode b_M_keyEnd 64 = .ok (.invokevirtual 122, 3) := by decide +kernel
theorem dd_M_keyEnd_67 : decode b_M_keyEnd 67 = .ok (.aload_n 0, 1) := by decide +kernel
theorem dd_M_keyEnd_68 : decode b_M_keyEnd 68 = .ok (.iload_n 2, 1) := by decide +kernel
theorem dd_M_keyEnd_69 : decode b_M_keyEnd 69 = .ok (.iconst 3, 1) := by decide +kernel
theorem dd_M_keyEnd_70 : decode b_M_keyEnd 70 = .ok (.invokevirtual 114, 3) := by decide +kernel
theorem dd_M_keyEnd_73 : decode b_M_keyEnd 73 = .ok (.iadd, 1) := by decide +kernel
theorem dd_M_keyEnd_74 : decode b_M_keyEnd 74 = .ok (.istore 5, 2) := by decide +kernel
theorem dd_M_keyEnd_76 : decode b_M_keyEnd 76 = .ok (.iload 5, 2) := by decide +kernel
theorem dd_M_keyEnd_78 : decode b_M_keyEnd 78 = .ok (.iload_n 3, 1) := by decide +kernel
theorem dd_M_keyEnd_79 : decode b_M_keyEnd 79 = .ok (.if_icmp .ge 8, 3) := by decide +kernel
theorem dd_M_keyEnd_82 : decode b_M_keyEnd 82 = .ok (.iload 5, 2) := by decide +kernel
theorem dd_M_keyEnd_84 : decode b_M_keyEnd 84 = .ok (.goto 4, 3) := by decide +kernel
theorem dd_M_keyEnd_87 : decode b_M_keyEnd 87 = .ok (.iload_n 3, 1) := by decide +kernel
theorem dd_M_keyEnd_88 : decode b_M_keyEnd 88 = .ok (.ireturn, 1) := by decide +kernel
end
section
theorem dd_M_from_0 : decode b_M_from 0 = .ok (.aload_n 0, 1) := by decide +kernel
theorem dd_M_from_1 : decode b_M_from 1 = .ok (.getfield 126, 3) := by decide +kernel
theorem dd_M_from_4 : decode b_M_from 4 = .ok (.ifCond .eq 17, 3) := by decide +kernel
theorem dd_M_from_7 : decode b_M_from 7 = .ok (.aload_n 0, 1) := by decide +kernel
theorem dd_M_from_8 : decode b_M_from 8 = .ok (.getfield 30, 3) := by decide +kernel
theorem dd_M_from_11 : decode b_M_from 11 = .ok (.bipush 6, 2) := by decide +kernel
theorem dd_M_from_13 : decode b_M_from 13 = .ok (.iload_n 1, 1) := by decide +kernel
theorem dd_M_from_14 : decode b_M_from 14 = .ok (.imul, 1) := by decide +kernel
theorem dd_M_from_15 : decode b_M_from 15 = .ok (.iload_n 2, 1) := by decide +kernel
theorem dd_M_from_16 : decode b_M_from 16 = .ok (.iadd, 1) := by decide +kernel
theorem dd_M_from_17 : decode b_M_from 17 = .ok (.iaload, 1) := by decide +kernel
theorem dd_M_from_18 : decode b_M_from 18 = .ok (.goto 9, 3) := by decide +kernel
theorem dd_M_from_21 : decode b_M_from 21 = .ok (.aload_n 0, 1) := by decide +kernel
theorem dd_M_from_22 : decode b_M_from 22 = .ok (.iload_n 1, 1) := by decide +kernel
theorem dd_M_from_23 : decode b_M_from 23 = .ok (.iload_n 2, 1) := by decide +kernel
theorem dd_M_from_24 : decode b_M_from 24 = .ok (.invokevirtual 129, 3) := by decide +kernel
theorem dd_M_from_27 : decode b_M_from 27 = .ok (.ireturn, 1) := by decide +kernel
theorem dd_M_to_0 : decode b_M_to 0 = .ok (.aload_n 0, 1) := by decide +kernel
theorem dd_M_to_1 : decode b_M_to 1 = .ok (.getfield 126, 3) := by decide +kernel
theorem dd_M_to_4 : decode b_M_to 4 = .ok (.ifCond .eq 17, 3) := by decide +kernel
theorem dd_M_to_7 : decode b_M_to 7 = .ok (.aload_n 0, 1) := by decide +kernel
theorem dd_M_to_8 : decode b_M_to 8 = .ok (.getfield 33, 3) := by decide +kernel
theorem dd_M_to_11 : decode b_M_to 11 = .ok (.bipush 6, 2) := by decide +kernel
theorem dd_M_to_13 : decode b_M_to 13 = .ok (.iload_n 1, 1) := by decide +kernel
theorem dd_M_to_14 : decode b_M_to 14 = .ok (.imul, 1) := by decide +kernel
theorem dd_M_to_15 : decode b_M_to 15 = .ok (.iload_n 2, 1) := by decide +kernel
theorem dd_M_to_16 : decode b_M_to 16 = .ok (.iadd, 1) := by decide +kernel
theorem dd_M_to_17 : decode b_M_to 17 = .ok (.iaload, 1) := by decide +kernel
theorem dd_M_to_18 : decode b_M_to 18 = .ok (.goto 9, 3) := by decide +kernel
theorem dd_M_to_21 : decode b_M_to 21 = .ok (.aload_n 0, 1) := by decide +kernel
theorem dd_M_to_22 : decode b_M_to 22 = .ok (.iload_n 1, 1) := by decide +kernel
theorem dd_M_to_23 : decode b_M_to 23 = .ok (.iload_n 2, 1) := by decide +kernel
theorem dd_M_to_24 : decode b_M_to 24 = .ok (.invokevirtual 132, 3) := by decide +kernel
theorem dd_M_to_27 : decode b_M_to 27 = .ok (.ireturn, 1) := by decide +kernel
theorem dd_M_counts_0 : decode b_M_counts 0 = .ok (.aload_n 0, 1) := by decide +kernel
theorem dd_M_counts_1 : decode b_M_counts 1 = .ok (.getfield 7, 3) := by decide +kernel
theorem dd_M_counts_4 : decode b_M_counts 4 = .ok (.iload_n 1, 1) := by decide +kernel
theorem dd_M_counts_5 : decode b_M_counts 5 = .ok (.baload, 1) := by decide +kernel
theorem dd_M_counts_6 : decode b_M_counts 6 = .ok (.sipush 255, 3) := by decide +kernel
theorem dd_M_counts_9 : decode b_M_counts 9 = .ok (.iand, 1) := by decide +kernel
theorem dd_M_counts_10 : decode b_M_counts 10 = .ok (.istore_n 3, 1) := by decide +kernel
theorem dd_M_counts_11 : decode b_M_counts 11 = .ok (.iload_n 3, 1) := by decide +kernel
theorem dd_M_counts_12 : decode b_M_counts 12 = .ok (.bipush 32, 2) := by decide +kernel
theorem dd_M_counts_14 : decode b_M_counts 14 = .ok (.if_icmp .eq 42, 3) := by decide +kernel
theorem dd_M_counts_17 : decode b_M_counts 17 = .ok (.iload_n 3, 1) := by decide +kernel
theorem dd_M_counts_18 : decode b_M_counts 18 = .ok (.bipush 9, 2) := by decide +kernel
theorem dd_M_counts_20 : decode b_M_counts 20 = .ok (.if_icmp .eq 36, 3) := by decide +kernel
theorem dd_M_counts_23 : decode b_M_counts 23 = .ok (.iload_n 3, 1) := by decide +kernel
theorem dd_M_counts_24 : decode b_M_counts 24 = .ok (.bipush 48, 2) := by decide +kernel
theorem dd_M_counts_26 : decode b_M_counts 26 = .ok (.bipush 57, 2) := by decide +kernel
theorem dd_M_counts_28 : decode b_M_counts 28 = .ok (.invokestatic 81, 3) := by decide +kernel
theorem dd_M_counts_31 : decode b_M_counts 31 = .ok (.ifCond .ne 25, 3) := by decide +kernel
theorem dd_M_counts_34 : decode b_M_counts 34 = .ok (.iload_n 3, 1) := by decide +kernel
theorem dd_M_counts_35 : decode b_M_counts 35 = .ok (.bipush 97, 2) := by decide +kernel
theorem dd_M_counts_37 : decode b_M_counts 37 = .ok (.bipush 122, 2) := by decide +kernel
theorem dd_M_counts_39 : decode b_M_counts 39 = .ok (.invokestatic 81, 3) := by decide +kernel
theorem dd_M_counts_42 : decode b_M_counts 42 = .ok (.ifCond .ne 14, 3) := by decide +kernel
theorem dd_M_counts_45 : decode b_M_counts 45 = .ok (.iload_n 3, 1) := by decide +kernel
theorem dd_M_counts_46 : decode b_M_counts 46 = .ok (.bipush 65, 2) := by decide +kernel
theorem dd_M_counts_48 : decode b_M_counts 48 = .ok (.bipush 90, 2) := by decide +kernel
theorem dd_M_counts_50 : decode b_M_counts 50 = .ok (.invokestatic 81, 3) := by decide +kernel
theorem dd_M_counts_53 : decode b_M_counts 53 = .ok (.ifCond .eq 7, 3) := by decide +kernel
theorem dd_M_counts_56 : decode b_M_counts 56 = .ok (.iconst 1, 1) := by decide +kernel
theorem dd_M_counts_57 : decode b_M_counts 57 = .ok (.goto 4, 3) := by decide +kernel
theorem dd_M_counts_60 : decode b_M_counts 60 = .ok (.iconst 0, 1) := by decide +kernel
theorem dd_M_counts_61 : decode b_M_counts 61 = .ok (.istore 4, 2) := by decide +kernel
theorem dd_M_counts_63 : decode b_M_counts 63 = .ok (.iload_n 2, 1) := by decide +kernel
theorem dd_M_counts_64 : decode b_M_counts 64 = .ok (.iconst 2, 1) := by decide +kernel
theorem dd_M_counts_65 : decode b_M_counts 65 = .ok (.iand, 1) := by decide +kernel
theorem dd_M_counts_66 : decode b_M_counts 66 = .ok (.ifCond .eq 8, 3) := by decide +kernel
theorem dd_M_counts_69 : decode b_M_counts 69 = .ok (.iload 4, 2) := by decide +kernel
theorem dd_M_counts_71 : decode b_M_counts 71 = .ok (.ifCond .eq 25, 3) := by decide +kernel
theorem dd_M_counts_74 : decode b_M_counts 74 = .ok (.iload_n 2, 1) := by decide +kernel
theorem dd_M_counts_75 : decode b_M_counts 75 = .ok (.bipush 8, 2) := by decide +kernel
theorem dd_M_counts_77 : decode b_M_counts 77 = .ok (.iand, 1) := by decide +kernel
theorem dd_M_counts_78 : decode b_M_counts 78 = .ok (.ifCond .eq 14, 3) := by decide +kernel
theorem dd_M_counts_81 : decode b_M_counts 81 = .ok (.iload_n 3, 1) := by decide +kernel
theorem dd_M_counts_82 : decode b_M_counts 82 = .ok (.bipush 32, 2) := by decide +kernel
theorem dd_M_counts_84 : decode b_M_counts 84 = .ok (.bipush 126, 2) := by decide +kernel
theorem dd_M_counts_86 : decode b_M_counts 86 = .ok (.invokestatic 81, 3) := by decide +kernel
theorem dd_M_counts_89 : decode b_M_counts 89 = .ok (.ifCond .eq 7, 3) := by decide +kernel
theorem dd_M_counts_92 : decode b_M_counts 92 = .ok (.iconst 1, 1) := by decide +kernel
theorem dd_M_counts_93 : decode b_M_counts 93 = .ok (.goto 4, 3) := by decide +kernel
theorem dd_M_counts_96 : decode b_M_counts 96 = .ok (.iconst 0, 1) := by decide +kernel
theorem dd_M_counts_97 : decode b_M_counts 97 = .ok (.ireturn, 1) := by decide +kernel
theorem dd_M_folded_0 : decode b_M_folded 0 = .ok (.aload_n 0, 1) := by decide +kernel
theorem dd_M_folded_1 : decode b_M_folded 1 = .ok (.getfield 7, 3) := by decide +kernel
theorem dd_M_folded_4 : decode b_M_folded 4 = .ok (.iload_n 1, 1) := by decide +kernel
theorem dd_M_folded_5 : decode b_M_folded 5 = .ok (.baload, 1) := by decide +kernel
theorem dd_M_folded_6 : decode b_M_folded 6 = .ok (.sipush 255, 3) := by decide +kernel
theorem dd_M_folded_9 : decode b_M_folded 9 = .ok (.iand, 1) := by decide +kernel
theorem dd_M_folded_10 : decode b_M_folded 10 = .ok (.istore_n 3, 1) := by decide +kernel
theorem dd_M_folded_11 : decode b_M_folded 11 = .ok (.iload_n 2, 1) := by decide +kernel
theorem dd_M_folded_12 : decode b_M_folded 12 = .ok (.iconst 4, 1) := by decide +kernel
theorem dd_M_folded_13 : decode b_M_folded 13 = .ok (.iand, 1) := by decide +kernel
theorem dd_M_folded_14 : decode b_M_folded 14 = .ok (.ifCond .le 21, 3) := by decide +kernel
theorem dd_M_folded_17 : decode b_M_folded 17 = .ok (.iload_n 3, 1) := by decide +kernel
theorem dd_M_folded_18 : decode b_M_folded 18 = .ok (.bipush 97, 2) := by decide +kernel
theorem dd_M_folded_20 : decode b_M_folded 20 = .ok (.bipush 122, 2) := by decide +kernel
theorem dd_M_folded_22 : decode b_M_folded 22 = .ok (.invokestatic 81, 3) := by decide +kernel
theorem dd_M_folded_25 : decode b_M_folded 25 = .ok (.ifCond .eq 10, 3) := by decide +kernel
theorem dd_M_folded_28 : decode b_M_folded 28 = .ok (.iload_n 3, 1) := by decide +kernel
theorem dd_M_folded_29 : decode b_M_folded 29 = .ok (.bipush 32, 2) := by decide +kernel
theorem dd_M_folded_31 : decode b_M_folded 31 = .ok (.isub, 1) := by decide +kernel
theorem dd_M_folded_32 : decode b_M_folded 32 = .ok (.goto 4, 3) := by decide +kernel
theorem dd_M_folded_35 : decode b_M_folded 35 = .ok (.iload_n 3, 1) := by decide +kernel
theorem dd_M_folded_36 : decode b_M_folded 36 = .ok (.ireturn, 1) := by decide +kernel
theorem dd_M_bytes_0 : decode b_M_bytes 0 = .ok (.iload_n 1, 1) := by decide +kernel
theorem dd_M_bytes_1 : decode b_M_bytes 1 = .ok (.istore 6, 2) := by decide +kernel
theorem dd_M_bytes_3 : decode b_M_bytes 3 = .ok (.iload_n 3, 1) := by decide +kernel
theorem dd_M_bytes_4 : decode b_M_bytes 4 = .ok (.istore 7, 2) := by decide +kernel
theorem dd_M_bytes_6 : decode b_M_bytes 6 = .ok (.iload 6, 2) := by decide +kernel
theorem dd_M_bytes_8 : decode b_M_bytes 8 = .ok (.iload_n 2, 1) := by decide +kernel
theorem dd_M_bytes_9 : decode b_M_bytes 9 = .ok (.if_icmp .ge 20, 3) := by decide +kernel
theorem dd_M_bytes_12 : decode b_M_bytes 12 = .ok (.aload_n 0, 1) := by decide +kernel
theorem dd_M_bytes_13 : decode b_M_bytes 13 = .ok (.iload 6, 2) := by decide +kernel
theorem dd_M_bytes_15 : decode b_M_bytes 15 = .ok (.iload 5, 2) := by decide +kernel
theorem dd_M_bytes_17 : decode b_M_bytes 17 = .ok (.invokevirtual 135, 3) := by decide +kernel
theorem dd_M_bytes_20 : decode b_M_bytes 20 = .ok (.ifCond .ne 9, 3) := by decide +kernel
theorem dd_M_bytes_23 : decode b_M_bytes 23 = .ok (.iinc 6 1, 3) := by decide +kernel
theorem dd_M_bytes_26 : decode b_M_bytes 26 = .ok (.goto (-20), 3) := by decide +kernel
theorem dd_M_bytes_29 : decode b_M_bytes 29 = .ok (.iload 7, 2) := by decide +kernel
theorem dd_M_bytes_31 : decode b_M_bytes 31 = .ok (.iload 4, 2) := by decide +kernel
theorem dd_M_bytes_33 : decode b_M_bytes 33 = .ok (.if_icmp .ge 20, 3) := by decide +kernel
theorem dd_M_bytes_36 : decode b_M_bytes 36 = .ok (.aload_n 0, 1) := by decide +kernel
theorem dd_M_bytes_37 : decode b_M_bytes 37 = .ok (.iload 7, 2) := by decide +kernel
theorem dd_M_bytes_39 : decode b_M_bytes 39 = .ok (.iload 5, 2) := by decide +kernel
theorem dd_M_bytes_41 : decode b_M_bytes 41 = .ok (.invokevirtual 135, 3) := by decide +kernel
theorem dd_M_bytes_44 : decode b_M_bytes 44 = .ok (.ifCond .ne 9, 3) := by decide +kernel
theorem dd_M_bytes_47 : decode b_M_bytes 47 = .ok (.iinc 7 1, 3) := by decide +kernel
theorem dd_M_bytes_50 : decode b_M_bytes 50 = .ok (.goto (-21), 3) := by decide +kernel
theorem dd_M_bytes_53 : decode b_M_bytes 53 = .ok (.iload 6, 2) := by decide +kernel
theorem dd_M_bytes_55 : decode b_M_bytes 55 = .ok (.iload_n 2, 1) := by decide +kernel
theorem dd_M_bytes_56 : decode b_M_bytes 56 = .ok (.if_icmp .ge 10, 3) := by decide +kernel
theorem dd_M_bytes_59 : decode b_M_bytes 59 = .ok (.iload 7, 2) := by decide +kernel
theorem dd_M_bytes_61 : decode b_M_bytes 61 = .ok (.iload 4, 2) := by decide +kernel
theorem dd_M_bytes_63 : decode b_M_bytes 63 = .ok (.if_icmp .lt 26, 3) := by decide +kernel
theorem dd_M_bytes_66 : decode b_M_bytes 66 = .ok (.iload 6, 2) := by decide +kernel
theorem dd_M_bytes_68 : decode b_M_bytes 68 = .ok (.iload_n 2, 1) := by decide +kernel
theorem dd_M_bytes_69 : decode b_M_bytes 69 = .ok (.if_icmp .lt 18, 3) := by decide +kernel
theorem dd_M_bytes_72 : decode b_M_bytes 72 = .ok (.iload 7, 2) := by decide +kernel
theorem dd_M_bytes_74 : decode b_M_bytes 74 = .ok (.iload 4, 2) := by decide +kernel
theorem dd_M_bytes_76 : decode b_M_bytes 76 = .ok (.if_icmp .lt 7, 3) := by decide +kernel
theorem dd_M_bytes_79 : decode b_M_bytes 79 = .ok (.iconst 0, 1) := by decide +kernel
theorem dd_M_bytes_80 : decode b_M_bytes 80 = .ok (.goto 8, 3) := by decide +kernel
theorem dd_M_bytes_83 : decode b_M_bytes 83 = .ok (.iconst (-1), 1) := by decide +kernel
theorem dd_M_bytes_84 : decode b_M_bytes 84 = .ok (.goto 4, 3) := by decide +kernel
theorem dd_M_bytes_87 : decode b_M_bytes 87 = .ok (.iconst 1, 1) := by decide +kernel
theorem dd_M_bytes_88 : decode b_M_bytes 88 = .ok (.ireturn, 1) := by decide +kernel
theorem dd_M_bytes_89 : decode b_M_bytes 89 = .ok (.aload_n 0, 1) := by decide +kernel
theorem dd_M_bytes_90 : decode b_M_bytes 90 = .ok (.iload 6, 2) := by decide +kernel
theorem dd_M_bytes_92 : decode b_M_bytes 92 = .ok (.iload 5, 2) := by decide +kernel
theorem dd_M_bytes_94 : decode b_M_bytes 94 = .ok (.invokevirtual 138, 3) := by decide +kernel
theorem dd_M_bytes_97 : decode b_M_bytes 97 = .ok (.istore 8, 2) := by decide +kernel
theorem dd_M_bytes_99 : decode b_M_bytes 99 = .ok (.aload_n 0, 1) := by decide +kernel
theorem dd_M_bytes_100 : decode b_M_bytes 100 = .ok (.iload 7, 2) := by decide +kernel
theorem dd_M_bytes_102 : decode b_M_bytes 102 = .ok (.iload 5, 2) := by decide +kernel
theorem dd_M_bytes_104 : decode b_M_bytes 104 = .ok (.invokevirtual 138, 3) := by decide +kernel
theorem dd_M_bytes_107 : decode b_M_bytes 107 = .ok (.istore 9, 2) := by decide +kernel
theorem dd_M_bytes_109 : decode b_M_bytes 109 = .ok (.iload 8, 2) := by decide +kernel
theorem dd_M_bytes_111 : decode b_M_bytes 111 = .ok (.iload 9, 2) := by decide +kernel
theorem dd_M_bytes_113 : decode b_M_bytes 113 = .ok (.if_icmp .eq 16, 3) := by decide +kernel
theorem dd_M_bytes_116 : decode b_M_bytes 116 = .ok (.iload 8, 2) := by decide +kernel
theorem dd_M_bytes_118 : decode b_M_bytes 118 = .ok (.iload 9, 2) := by decide +kernel
theorem dd_M_bytes_120 : decode b_M_bytes 120 = .ok (.if_icmp .ge 7, 3) := by decide +kernel
theorem dd_M_bytes_123 : decode b_M_bytes 123 = .ok (.iconst (-1), 1) := by decide +kernel
theorem dd_M_bytes_124 : decode b_M_bytes 124 = .ok (.goto 4, 3) := by decide +kernel
theorem dd_M_bytes_127 : decode b_M_bytes 127 = .ok (.iconst 1, 1) := by decide +kernel
theorem dd_M_bytes_128 : decode b_M_bytes 128 = .ok (.ireturn, 1) := by decide +kernel
theorem dd_M_bytes_129 : decode b_M_bytes 129 = .ok (.iinc 6 1, 3) := by decide +kernel
theorem dd_M_bytes_132 : decode b_M_bytes 132 = .ok (.iinc 7 1, 3) := by decide +kernel
theorem dd_M_bytes_135 : decode b_M_bytes 135 = .ok (.goto (-129), 3) := by decide +kernel
theorem dd_M_isDigit_0 : decode b_M_isDigit 0 = .ok (.iload_n 1, 1) := by decide +kernel
theorem dd_M_isDigit_1 : decode b_M_isDigit 1 = .ok (.iload_n 2, 1) := by decide +kernel
theorem dd_M_isDigit_2 : decode b_M_isDigit 2 = .ok (.if_icmp .ge 29, 3) := by decide +kernel
theorem dd_M_isDigit_5 : decode b_M_isDigit 5 = .ok (.aload_n 0, 1) := by decide +kernel
theorem dd_M_isDigit_6 : decode b_M_isDigit 6 = .ok (.getfield 7, 3) := by decide +kernel
theorem dd_M_isDigit_9 : decode b_M_isDigit 9 = .ok (.iload_n 1, 1) := by decide +kernel
theorem dd_M_isDigit_10 : decode b_M_isDigit 10 = .ok (.baload, 1) := by decide +kernel
theorem dd_M_isDigit_11 : decode b_M_isDigit 11 = .ok (.bipush 48, 2) := by decide +kernel
theorem dd_M_isDigit_13 : decode b_M_isDigit 13 = .ok (.if_icmp .lt 18, 3) := by decide +kernel
theorem dd_M_isDigit_16 : decode b_M_isDigit 16 = .ok (.aload_n 0, 1) := by decide +kernel
theorem dd_M_isDigit_17 : decode b_M_isDigit 17 = .ok (.getfield 7, 3) := by decide +kernel
theorem dd_M_isDigit_20 : decode b_M_isDigit 20 = .ok (.iload_n 1, 1) := by decide +kernel
theorem dd_M_isDigit_21 : decode b_M_isDigit 21 = .ok (.baload, 1) := by decide +kernel
theorem dd_M_isDigit_22 : decode b_M_isDigit 22 = .ok (.bipush 57, 2) := by decide +kernel
theorem dd_M_isDigit_24 : decode b_M_isDigit 24 = .ok (.if_icmp .gt 7, 3) := by decide +kernel
theorem dd_M_isDigit_27 : decode b_M_isDigit 27 = .ok (.iconst 1, 1) := by decide +kernel
theorem dd_M_isDigit_28 : decode b_M_isDigit 28 = .ok (.goto 4, 3) := by decide +kernel
theorem dd_M_isDigit_31 : decode b_M_isDigit 31 = .ok (.iconst 0, 1) := by decide +kernel
theorem dd_M_isDigit_32 : decode b_M_isDigit 32 = .ok (.ireturn, 1) := by decide +kernel
theorem dd_M_behindBlanks_0 : decode b_M_behindBlanks 0 = .ok (.iload_n 1, 1) := by decide +kernel
theorem dd_M_behindBlanks_1 : decode b_M_behindBlanks 1 = .ok (.istore_n 3, 1) := by decide +kernel
theorem dd_M_behindBlanks_2 : decode b_M_behindBlanks 2 = .ok (.iload_n 3, 1) := by decide +kernel
theorem dd_M_behindBlanks_3 : decode b_M_behindBlanks 3 = .ok (.iload_n 2, 1) := by decide +kernel
theorem dd_M_behindBlanks_4 : decode b_M_behindBlanks 4 = .ok (.if_icmp .ge 17, 3) := by decide +kernel
theorem dd_M_behindBlanks_7 : decode b_M_behindBlanks 7 = .ok (.aload_n 0, 1) := by decide +kernel
theorem dd_M_behindBlanks_8 : decode b_M_behindBlanks 8 = .ok (.iload_n 3, 1) := by decide +kernel
theorem dd_M_behindBlanks_9 : decode b_M_behindBlanks 9 = .ok (.invokevirtual 110, 3) := by decide +kernel
theorem dd_M_behindBlanks_12 : decode b_M_behindBlanks 12 = .ok (.ifCond .eq 9, 3) := by decide +kernel
theorem dd_M_behindBlanks_15 : decode b_M_behindBlanks 15 = .ok (.iinc 3 1, 3) := by decide +kernel
theorem dd_M_behindBlanks_18 : decode b_M_behindBlanks 18 = .ok (.goto (-16), 3) := by decide +kernel
theorem dd_M_behindBlanks_21 : decode b_M_behindBlanks 21 = .ok (.iload_n 3, 1) := by decide +kernel
theorem dd_M_behindBlanks_22 : decode b_M_behindBlanks 22 = .ok (.ireturn, 1) := by decide +kernel
theorem dd_M_isMinus_0 : decode b_M_isMinus 0 = .ok (.iload_n 1, 1) := by decide +kernel
theorem dd_M_isMinus_1 : decode b_M_isMinus 1 = .ok (.iload_n 2, 1) := by decide +kernel
theorem dd_M_isMinus_2 : decode b_M_isMinus 2 = .ok (.if_icmp .ge 18, 3) := by decide +kernel
theorem dd_M_isMinus_5 : decode b_M_isMinus 5 = .ok (.aload_n 0, 1) := by decide +kernel
theorem dd_M_isMinus_6 : decode b_M_isMinus 6 = .ok (.getfield 7, 3) := by decide +kernel
theorem dd_M_isMinus_9 : decode b_M_isMinus 9 = .ok (.iload_n 1, 1) := by decide +kernel
theorem dd_M_isMinus_10 : decode b_M_isMinus 10 = .ok (.baload, 1) := by decide +kernel
theorem dd_M_isMinus_11 : decode b_M_isMinus 11 = .ok (.bipush 45, 2) := by decide +kernel
theorem dd_M_isMinus_13 : decode b_M_isMinus 13 = .ok (.if_icmp .ne 7, 3) := by decide +kernel
theorem dd_M_isMinus_16 : decode b_M_isMinus 16 = .ok (.iconst 1, 1) := by decide +kernel
theorem dd_M_isMinus_17 : decode b_M_isMinus 17 = .ok (.goto 4, 3) := by decide +kernel
theorem dd_M_isMinus_20 : decode b_M_isMinus 20 = .ok (.iconst 0, 1) := by decide +kernel
theorem dd_M_isMinus_21 : decode b_M_isMinus 21 = .ok (.ireturn, 1) := by decide +kernel
theorem dd_M_wholeAt_0 : decode b_M_wholeAt 0 = .ok (.aload_n 0, 1) := by decide +kernel
theorem dd_M_wholeAt_1 : decode b_M_wholeAt 1 = .ok (.iload_n 1, 1) := by decide +kernel
theorem dd_M_wholeAt_2 : decode b_M_wholeAt 2 = .ok (.iload_n 2, 1) := by decide +kernel
theorem dd_M_wholeAt_3 : decode b_M_wholeAt 3 = .ok (.invokevirtual 141, 3) := by decide +kernel
theorem dd_M_wholeAt_6 : decode b_M_wholeAt 6 = .ok (.istore_n 3, 1) := by decide +kernel
theorem dd_M_wholeAt_7 : decode b_M_wholeAt 7 = .ok (.iload_n 3, 1) := by decide +kernel
theorem dd_M_wholeAt_8 : decode b_M_wholeAt 8 = .ok (.aload_n 0, 1) := by decide +kernel
theorem dd_M_wholeAt_9 : decode b_M_wholeAt 9 = .ok (.iload_n 3, 1) := by decide +kernel
theorem dd_M_wholeAt_10 : decode b_M_wholeAt 10 = .ok (.iload_n 2, 1) := by decide +kernel
theorem dd_M_wholeAt_11 : decode b_M_wholeAt 11 = .ok (.invokevirtual 144, 3) := by decide +kernel
theorem dd_M_wholeAt_14 : decode b_M_wholeAt 14 = .ok (.ifCond .eq 7, 3) := by decide +kernel
theorem dd_M_wholeAt_17 : decode b_M_wholeAt 17 = .ok (.iconst 1, 1) := by decide +kernel
theorem dd_M_wholeAt_18 : decode b_M_wholeAt 18 = .ok (.goto 4, 3) := by decide +kernel
theorem dd_M_wholeAt_21 : decode b_M_wholeAt 21 = .ok (.iconst 0, 1) := by decide +kernel
theorem dd_M_wholeAt_22 : decode b_M_wholeAt 22 = .ok (.iadd, 1) := by decide +kernel
theorem dd_M_wholeAt_23 : decode b_M_wholeAt 23 = .ok (.istore_n 3, 1) := by decide +kernel
theorem dd_M_wholeAt_24 : decode b_M_wholeAt 24 = .ok (.iload_n 3, 1) := by decide +kernel
theorem dd_M_wholeAt_25 : decode b_M_wholeAt 25 = .ok (.iload_n 2, 1) := by decide +kernel
theorem dd_M_wholeAt_26 : decode b_M_wholeAt 26 = .ok (.if_icmp .ge 20, 3) := by decide +kernel
theorem dd_M_wholeAt_29 : decode b_M_wholeAt 29 = .ok (.aload_n 0, 1) := by decide +kernel
theorem dd_M_wholeAt_30 : decode b_M_wholeAt 30 = .ok (.getfield 7, 3) := by decide +kernel
theorem dd_M_wholeAt_33 : decode b_M_wholeAt 33 = .ok (.iload_n 3, 1) := by decide +kernel
theorem dd_M_wholeAt_34 : decode b_M_wholeAt 34 = .ok (.baload, 1) := by decide +kernel
theorem dd_M_wholeAt_35 : decode b_M_wholeAt 35 = .ok (.bipush 48, 2) := by decide +kernel
theorem dd_M_wholeAt_37 : decode b_M_wholeAt 37 = .ok (.if_icmp .ne 9, 3) := by decide +kernel
theorem dd_M_wholeAt_40 : decode b_M_wholeAt 40 = .ok (.iinc 3 1, 3) := by decide +kernel
theorem dd_M_wholeAt_43 : decode b_M_wholeAt 43 = .ok (.goto (-19), 3) := by decide +kernel
theorem dd_M_wholeAt_46 : decode b_M_wholeAt 46 = .ok (.iload_n 3, 1) := by decide +kernel
theorem dd_M_wholeAt_47 : decode b_M_wholeAt 47 = .ok (.ireturn, 1) := by decide +kernel
theorem dd_M_behindDigits_0 : decode b_M_behindDigits 0 = .ok (.iload_n 1, 1) := by decide +kernel
theorem dd_M_behindDigits_1 : decode b_M_behindDigits 1 = .ok (.istore_n 3, 1) := by decide +kernel
theorem dd_M_behindDigits_2 : decode b_M_behindDigits 2 = .ok (.aload_n 0, 1) := by decide +kernel
theorem dd_M_behindDigits_3 : decode b_M_behindDigits 3 = .ok (.iload_n 3, 1) := by decide +kernel
theorem dd_M_behindDigits_4 : decode b_M_behindDigits 4 = .ok (.iload_n 2, 1) := by decide +kernel
theorem dd_M_behindDigits_5 : decode b_M_behindDigits 5 = .ok (.invokevirtual 147, 3) := by decide +kernel
theorem dd_M_behindDigits_8 : decode b_M_behindDigits 8 = .ok (.ifCond .eq 9, 3) := by decide +kernel
theorem dd_M_behindDigits_11 : decode b_M_behindDigits 11 = .ok (.iinc 3 1, 3) := by decide +kernel
theorem dd_M_behindDigits_14 : decode b_M_behindDigits 14 = .ok (.goto (-12), 3) := by decide +kernel
theorem dd_M_behindDigits_17 : decode b_M_behindDigits 17 = .ok (.iload_n 3, 1) := by decide +kernel
theorem dd_M_behindDigits_18 : decode b_M_behindDigits 18 = .ok (.ireturn, 1) := by decide +kernel
theorem dd_M_partAt_0 : decode b_M_partAt 0 = .ok (.aload_n 0, 1) := by decide +kernel
theorem dd_M_partAt_1 : decode b_M_partAt 1 = .ok (.iload_n 1, 1) := by decide +kernel
theorem dd_M_partAt_2 : decode b_M_partAt 2 = .ok (.iload_n 2, 1) := by decide +kernel
theorem dd_M_partAt_3 : decode b_M_partAt 3 = .ok (.invokevirtual 150, 3) := by decide +kernel
theorem dd_M_partAt_6 : decode b_M_partAt 6 = .ok (.istore_n 3, 1) := by decide +kernel
theorem dd_M_partAt_7 : decode b_M_partAt 7 = .ok (.iload_n 3, 1) := by decide +kernel
theorem dd_M_partAt_8 : decode b_M_partAt 8 = .ok (.iload_n 2, 1) := by decide +kernel
theorem dd_M_partAt_9 : decode b_M_partAt 9 = .ok (.if_icmp .ge 20, 3) := by decide +kernel
theorem dd_M_partAt_12 : decode b_M_partAt 12 = .ok (.aload_n 0, 1) := by decide +kernel
theorem dd_M_partAt_13 : decode b_M_partAt 13 = .ok (.getfield 7, 3) := by decide +kernel
theorem dd_M_partAt_16 : decode b_M_partAt 16 = .ok (.iload_n 3, 1) := by decide +kernel
theorem dd_M_partAt_17 : decode b_M_partAt 17 = .ok (.baload, 1) := by decide +kernel
theorem dd_M_partAt_18 : decode b_M_partAt 18 = .ok (.bipush 46, 2) := by decide +kernel
theorem dd_M_partAt_20 : decode b_M_partAt 20 = .ok (.if_icmp .ne 9, 3) := by decide +kernel
theorem dd_M_partAt_23 : decode b_M_partAt 23 = .ok (.iload_n 3, 1) := by decide +kernel
theorem dd_M_partAt_24 : decode b_M_partAt 24 = .ok (.iconst 1, 1) := by decide +kernel
theorem dd_M_partAt_25 : decode b_M_partAt 25 = .ok (.iadd, 1) := by decide +kernel
theorem dd_M_partAt_26 : decode b_M_partAt 26 = .ok (.goto 4, 3) := by decide +kernel
theorem dd_M_partAt_29 : decode b_M_partAt 29 = .ok (.iload_n 2, 1) := by decide +kernel
theorem dd_M_partAt_30 : decode b_M_partAt 30 = .ok (.ireturn, 1) := by decide +kernel
theorem dd_M_sizes_0 : decode b_M_sizes 0 = .ok (.aload_n 0, 1) := by decide +kernel
theorem dd_M_sizes_1 : decode b_M_sizes 1 = .ok (.iload_n 1, 1) := by decide +kernel
theorem dd_M_sizes_2 : decode b_M_sizes 2 = .ok (.iload_n 2, 1) := by decide +kernel
theorem dd_M_sizes_3 : decode b_M_sizes 3 = .ok (.invokevirtual 150, 3) := by decide +kernel
theorem dd_M_sizes_6 : decode b_M_sizes 6 = .ok (.iload_n 1, 1) := by decide +kernel
theorem dd_M_sizes_7 : decode b_M_sizes 7 = .ok (.isub, 1) := by decide +kernel
theorem dd_M_sizes_8 : decode b_M_sizes 8 = .ok (.istore 5, 2) := by decide +kernel
theorem dd_M_sizes_10 : decode b_M_sizes 10 = .ok (.aload_n 0, 1) := by decide +kernel
theorem dd_M_sizes_11 : decode b_M_sizes 11 = .ok (.iload_n 3, 1) := by decide +kernel
theorem dd_M_sizes_12 : decode b_M_sizes 12 = .ok (.iload 4, 2) := by decide +kernel
theorem dd_M_sizes_14 : decode b_M_sizes 14 = .ok (.invokevirtual 150, 3) := by decide +kernel
theorem dd_M_sizes_17 : decode b_M_sizes 17 = .ok (.iload_n 3, 1) := by decide +kernel
theorem dd_M_sizes_18 : decode b_M_sizes 18 = .ok (.isub, 1) := by decide +kernel
theorem dd_M_sizes_19 : decode b_M_sizes 19 = .ok (.istore 6, 2) := by decide +kernel
theorem dd_M_sizes_21 : decode b_M_sizes 21 = .ok (.iload 5, 2) := by decide +kernel
theorem dd_M_sizes_23 : decode b_M_sizes 23 = .ok (.iload 6, 2) := by decide +kernel
theorem dd_M_sizes_25 : decode b_M_sizes 25 = .ok (.if_icmp .eq 16, 3) := by decide +kernel
theorem dd_M_sizes_28 : decode b_M_sizes 28 = .ok (.iload 5, 2) := by decide +kernel
theorem dd_M_sizes_30 : decode b_M_sizes 30 = .ok (.iload 6, 2) := by decide +kernel
theorem dd_M_sizes_32 : decode b_M_sizes 32 = .ok (.if_icmp .ge 7, 3) := by decide +kernel
theorem dd_M_sizes_35 : decode b_M_sizes 35 = .ok (.iconst (-1), 1) := by decide +kernel
theorem dd_M_sizes_36 : decode b_M_sizes 36 = .ok (.goto 4, 3) := by decide +kernel
theorem dd_M_sizes_39 : decode b_M_sizes 39 = .ok (.iconst 1, 1) := by decide +kernel
theorem dd_M_sizes_40 : decode b_M_sizes 40 = .ok (.ireturn, 1) := by decide +kernel
theorem dd_M_sizes_41 : decode b_M_sizes 41 = .ok (.iconst 0, 1) := by decide +kernel
theorem dd_M_sizes_42 : decode b_M_sizes 42 = .ok (.istore 7, 2) := by decide +kernel
theorem dd_M_sizes_44 : decode b_M_sizes 44 = .ok (.iload 7, 2) := by decide +kernel
theorem dd_M_sizes_46 : decode b_M_sizes 46 = .ok (.iload 5, 2) := by decide +kernel
theorem dd_M_sizes_48 : decode b_M_sizes 48 = .ok (.if_icmp .ge 57, 3) := by decide +kernel
theorem dd_M_sizes_51 : decode b_M_sizes 51 = .ok (.aload_n 0, 1) := by decide +kernel
theorem dd_M_sizes_52 : decode b_M_sizes 52 = .ok (.getfield 7, 3) := by decide +kernel
theorem dd_M_sizes_55 : decode b_M_sizes 55 = .ok (.iload_n 1, 1) := by decide +kernel
theorem dd_M_sizes_56 : decode b_M_sizes 56 = .ok (.iload 7, 2) := by decide +kernel
theorem dd_M_sizes_58 : decode b_M_sizes 58 = .ok (.iadd, 1) := by decide +kernel
theorem dd_M_sizes_59 : decode b_M_sizes 59 = .ok (.baload, 1) := by decide +kernel
theorem dd_M_sizes_60 : decode b_M_sizes 60 = .ok (.aload_n 0, 1) := by decide +kernel
theorem dd_M_sizes_61 : decode b_M_sizes 61 = .ok (.getfield 7, 3) := by decide +kernel
theorem dd_M_sizes_64 : decode b_M_sizes 64 = .ok (.iload_n 3, 1) := by decide +kernel
theorem dd_M_sizes_65 : decode b_M_sizes 65 = .ok (.iload 7, 2) := by decide +kernel
theorem dd_M_sizes_67 : decode b_M_sizes 67 = .ok (.iadd, 1) := by decide +kernel
theorem dd_M_sizes_68 : decode b_M_sizes 68 = .ok (.baload, 1) := by decide +kernel
theorem dd_M_sizes_69 : decode b_M_sizes 69 = .ok (.if_icmp .eq 30, 3) := by decide +kernel
theorem dd_M_sizes_72 : decode b_M_sizes 72 = .ok (.aload_n 0, 1) := by decide +kernel
theorem dd_M_sizes_73 : decode b_M_sizes 73 = .ok (.getfield 7, 3) := by decide +kernel
theorem dd_M_sizes_76 : decode b_M_sizes 76 = .ok (.iload_n 1, 1) := by decide +kernel
theorem dd_M_sizes_77 : decode b_M_sizes 77 = .ok (.iload 7, 2) := by decide +kernel
theorem dd_M_sizes_79 : decode b_M_sizes 79 = .ok (.iadd, 1) := by decide +kernel
theorem dd_M_sizes_80 : decode b_M_sizes 80 = .ok (.baload, 1) := by decide +kernel
theorem dd_M_sizes_81 : decode b_M_sizes 81 = .ok (.aload_n 0, 1) := by decide +kernel
theorem dd_M_sizes_82 : decode b_M_sizes 82 = .ok (.getfield 7, 3) := by decide +kernel
theorem dd_M_sizes_85 : decode b_M_sizes 85 = .ok (.iload_n 3, 1) := by decide +kernel
theorem dd_M_sizes_86 : decode b_M_sizes 86 = .ok (.iload 7, 2) := by decide +kernel
theorem dd_M_sizes_88 : decode b_M_sizes 88 = .ok (.iadd, 1) := by decide +kernel
theorem dd_M_sizes_89 : decode b_M_sizes 89 = .ok (.baload, 1) := by decide +kernel
theorem dd_M_sizes_90 : decode b_M_sizes 90 = .ok (.if_icmp .ge 7, 3) := by decide +kernel
theorem dd_M_sizes_93 : decode b_M_sizes 93 = .ok (.iconst (-1), 1) := by decide +kernel
theorem dd_M_sizes_94 : decode b_M_sizes 94 = .ok (.goto 4, 3) := by decide +kernel
theorem dd_M_sizes_97 : decode b_M_sizes 97 = .ok (.iconst 1, 1) := by decide +kernel
theorem dd_M_sizes_98 : decode b_M_sizes 98 = .ok (.ireturn, 1) := by decide +kernel
theorem dd_M_sizes_99 : decode b_M_sizes 99 = .ok (.iinc 7 1, 3) := by decide +kernel
theorem dd_M_sizes_102 : decode b_M_sizes 102 = .ok (.goto (-58), 3) := by decide +kernel
theorem dd_M_sizes_105 : decode b_M_sizes 105 = .ok (.aload_n 0, 1) := by decide +kernel
theorem dd_M_sizes_106 : decode b_M_sizes 106 = .ok (.iload_n 1, 1) := by decide +kernel
theorem dd_M_sizes_107 : decode b_M_sizes 107 = .ok (.iload_n 2, 1) := by decide +kernel
theorem dd_M_sizes_108 : decode b_M_sizes 108 = .ok (.invokevirtual 153, 3) := by decide +kernel
theorem dd_M_sizes_111 : decode b_M_sizes 111 = .ok (.istore 7, 2) := by decide +kernel
theorem dd_M_sizes_113 : decode b_M_sizes 113 = .ok (.aload_n 0, 1) := by decide +kernel
theorem dd_M_sizes_114 : decode b_M_sizes 114 = .ok (.iload_n 3, 1) := by decide +kernel
theorem dd_M_sizes_115 : decode b_M_sizes 115 = .ok (.iload 4, 2) := by decide +kernel
theorem dd_M_sizes_117 : decode b_M_sizes 117 = .ok (.invokevirtual 153, 3) := by decide +kernel
theorem dd_M_sizes_120 : decode b_M_sizes 120 = .ok (.istore 8, 2) := by decide +kernel
theorem dd_M_sizes_122 : decode b_M_sizes 122 = .ok (.aload_n 0, 1) := by decide +kernel
theorem dd_M_sizes_123 : decode b_M_sizes 123 = .ok (.iload 7, 2) := by decide +kernel
theorem dd_M_sizes_125 : decode b_M_sizes 125 = .ok (.iload_n 2, 1) := by decide +kernel
theorem dd_M_sizes_126 : decode b_M_sizes 126 = .ok (.invokevirtual 147, 3) := by decide +kernel
theorem dd_M_sizes_129 : decode b_M_sizes 129 = .ok (.ifCond .ne 14, 3) := by decide +kernel
theorem dd_M_sizes_132 : decode b_M_sizes 132 = .ok (.aload_n 0, 1) := by decide +kernel
theorem dd_M_sizes_133 : decode b_M_sizes 133 = .ok (.iload 8, 2) := by decide +kernel
theorem dd_M_sizes_135 : decode b_M_sizes 135 = .ok (.iload 4, 2) := by decide +kernel
theorem dd_M_sizes_137 : decode b_M_sizes 137 = .ok (.invokevirtual 147, 3) := by decide +kernel
theorem dd_M_sizes_140 : decode b_M_sizes 140 = .ok (.ifCond .eq 116, 3) := by decide +kernel
theorem dd_M_sizes_143 : decode b_M_sizes 143 = .ok (.aload_n 0, 1) := by decide +kernel
theorem dd_M_sizes_144 : decode b_M_sizes 144 = .ok (.iload 7, 2) := by decide +kernel
theorem dd_M_sizes_146 : decode b_M_sizes 146 = .ok (.iload_n 2, 1) := by decide +kernel
theorem dd_M_sizes_147 : decode b_M_sizes 147 = .ok (.invokevirtual 147, 3) := by decide +kernel
theorem dd_M_sizes_150 : decode b_M_sizes 150 = .ok (.ifCond .eq 13, 3) := by decide +kernel
theorem dd_M_sizes_153 : decode b_M_sizes 153 = .ok (.aload_n 0, 1) := by decide +kernel
theorem dd_M_sizes_154 : decode b_M_sizes 154 = .ok (.getfield 7, 3) := by decide +kernel
theorem dd_M_sizes_157 : decode b_M_sizes 157 = .ok (.iload 7, 2) := by decide +kernel
theorem dd_M_sizes_159 : decode b_M_sizes 159 = .ok (.baload, 1) := by decide +kernel
theorem dd_M_sizes_160 : decode b_M_sizes 160 = .ok (.goto 5, 3) := by decide +kernel
theorem dd_M_sizes_163 : decode b_M_sizes 163 = .ok (.bipush 48, 2) := by decide +kernel
theorem dd_M_sizes_165 : decode b_M_sizes 165 = .ok (.istore 9, 2) := by decide +kernel
theorem dd_M_sizes_167 : decode b_M_sizes 167 = .ok (.aload_n 0, 1) := by decide +kernel
theorem dd_M_sizes_168 : decode b_M_sizes 168 = .ok (.iload 8, 2) := by decide +kernel
theorem dd_M_sizes_170 : decode b_M_sizes 170 = .ok (.iload 4, 2) := by decide +kernel
theorem dd_M_sizes_172 : decode b_M_sizes 172 = .ok (.invokevirtual 147, 3) := by decide +kernel
theorem dd_M_sizes_175 : decode b_M_sizes 175 = .ok (.ifCond .eq 13, 3) := by decide +kernel
theorem dd_M_sizes_178 : decode b_M_sizes 178 = .ok (.aload_n 0, 1) := by decide +kernel
theorem dd_M_sizes_179 : decode b_M_sizes 179 = .ok (.getfield 7, 3) := by decide +kernel
theorem dd_M_sizes_182 : decode b_M_sizes 182 = .ok (.iload 8, 2) := by decide +kernel
theorem dd_M_sizes_184 : decode b_M_sizes 184 = .ok (.baload, 1) := by decide +kernel
theorem dd_M_sizes_185 : decode b_M_sizes 185 = .ok (.goto 5, 3) := by decide +kernel
theorem dd_M_sizes_188 : decode b_M_sizes 188 = .ok (.bipush 48, 2) := by decide +kernel
theorem dd_M_sizes_190 : decode b_M_sizes 190 = .ok (.istore 10, 2) := by decide +kernel
theorem dd_M_sizes_192 : decode b_M_sizes 192 = .ok (.iload 9, 2) := by decide +kernel
theorem dd_M_sizes_194 : decode b_M_sizes 194 = .ok (.iload 10, 2) := by decide +kernel
theorem dd_M_sizes_196 : decode b_M_sizes 196 = .ok (.if_icmp .eq 16, 3) := by decide +kernel
theorem dd_M_sizes_199 : decode b_M_sizes 199 = .ok (.iload 9, 2) := by decide +kernel
theorem dd_M_sizes_201 : decode b_M_sizes 201 = .ok (.iload 10, 2) := by decide +kernel
theorem dd_M_sizes_203 : decode b_M_sizes 203 = .ok (.if_icmp .ge 7, 3) := by decide +kernel
theorem dd_M_sizes_206 : decode b_M_sizes 206 = .ok (.iconst (-1), 1) := by decide +kernel
theorem dd_M_sizes_207 : decode b_M_sizes 207 = .ok (.goto 4, 3) := by decide +kernel
theorem dd_M_sizes_210 : decode b_M_sizes 210 = .ok (.iconst 1, 1) := by decide +kernel
theorem dd_M_sizes_211 : decode b_M_sizes 211 = .ok (.ireturn, 1) := by decide +kernel
theorem dd_M_sizes_212 : decode b_M_sizes 212 = .ok (.iload 7, 2) := by decide +kernel
theorem dd_M_sizes_214 : decode b_M_sizes 214 = .ok (.aload_n 0, 1) := by decide +kernel
theorem dd_M_sizes_215 : decode b_M_sizes 215 = .ok (.iload 7, 2) := by decide +kernel
theorem dd_M_sizes_217 : decode b_M_sizes 217 = .ok (.iload_n 2, 1) := by decide +kernel
theorem dd_M_sizes_218 : decode b_M_sizes 218 = .ok (.invokevirtual 147, 3) := by decide +kernel
theorem dd_M_sizes_221 : decode b_M_sizes 221 = .ok (.ifCond .eq 7, 3) := by decide +kernel
theorem dd_M_sizes_224 : decode b_M_sizes 224 = .ok (.iconst 1, 1) := by decide +kernel
theorem dd_M_sizes_225 : decode b_M_sizes 225 = .ok (.goto 4, 3) := by decide +kernel
theorem dd_M_sizes_228 : decode b_M_sizes 228 = .ok (.iconst 0, 1) := by decide +kernel
theorem dd_M_sizes_229 : decode b_M_sizes 229 = .ok (.iadd, 1) := by decide +kernel
theorem dd_M_sizes_230 : decode b_M_sizes 230 = .ok (.istore 7, 2) := by decide +kernel
theorem dd_M_sizes_232 : decode b_M_sizes 232 = .ok (.iload 8, 2) := by decide +kernel
theorem dd_M_sizes_234 : decode b_M_sizes 234 = .ok (.aload_n 0, 1) := by decide +kernel
theorem dd_M_sizes_235 : decode b_M_sizes 235 = .ok (.iload 8, 2) := by decide +kernel
theorem dd_M_sizes_237 : decode b_M_sizes 237 = .ok (.iload 4, 2) := by decide +kernel
theorem dd_M_sizes_239 : decode b_M_sizes 239 = .ok (.invokevirtual 147, 3) := by decide +kernel
theorem dd_M_sizes_242 : decode b_M_sizes 242 = .ok (.ifCond .eq 7, 3) := by decide +kernel
theorem dd_M_sizes_245 : decode b_M_sizes 245 = .ok (.iconst 1, 1) := by decide +kernel
theorem dd_M_sizes_246 : decode b_M_sizes 246 = .ok (.goto 4, 3) := by decide +kernel
theorem dd_M_sizes_249 : decode b_M_sizes 249 = .ok (.iconst 0, 1) := by decide +kernel
theorem dd_M_sizes_250 : decode b_M_sizes 250 = .ok (.iadd, 1) := by decide +kernel
theorem dd_M_sizes_251 : decode b_M_sizes 251 = .ok (.istore 8, 2) := by decide +kernel
theorem dd_M_sizes_253 : decode b_M_sizes 253 = .ok (.goto (-131), 3) := by decide +kernel
theorem dd_M_sizes_256 : decode b_M_sizes 256 = .ok (.iconst 0, 1) := by decide +kernel
theorem dd_M_sizes_257 : decode b_M_sizes 257 = .ok (.ireturn, 1) := by decide +kernel
theorem dd_M_isZero_0 : decode b_M_isZero 0 = .ok (.aload_n 0, 1) := by decide +kernel
theorem dd_M_isZero_1 : decode b_M_isZero 1 = .ok (.iload_n 1, 1) := by decide +kernel
theorem dd_M_isZero_2 : decode b_M_isZero 2 = .ok (.iload_n 2, 1) := by decide +kernel
theorem dd_M_isZero_3 : decode b_M_isZero 3 = .ok (.invokevirtual 147, 3) := by decide +kernel
theorem dd_M_isZero_6 : decode b_M_isZero 6 = .ok (.ifCond .eq 5, 3) := by decide +kernel
theorem dd_M_isZero_9 : decode b_M_isZero 9 = .ok (.iconst 0, 1) := by decide +kernel
theorem dd_M_isZero_10 : decode b_M_isZero 10 = .ok (.ireturn, 1) := by decide +kernel
theorem dd_M_isZero_11 : decode b_M_isZero 11 = .ok (.aload_n 0, 1) := by decide +kernel
theorem dd_M_isZero_12 : decode b_M_isZero 12 = .ok (.iload_n 1, 1) := by decide +kernel
theorem dd_M_isZero_13 : decode b_M_isZero 13 = .ok (.iload_n 2, 1) := by decide +kernel
theorem dd_M_isZero_14 : decode b_M_isZero 14 = .ok (.invokevirtual 153, 3) := by decide +kernel
theorem dd_M_isZero_17 : decode b_M_isZero 17 = .ok (.istore_n 3, 1) := by decide +kernel
theorem dd_M_isZero_18 : decode b_M_isZero 18 = .ok (.aload_n 0, 1) := by decide +kernel
theorem dd_M_isZero_19 : decode b_M_isZero 19 = .ok (.iload_n 3, 1) := by decide +kernel
theorem dd_M_isZero_20 : decode b_M_isZero 20 = .ok (.iload_n 2, 1) := by decide +kernel
theorem dd_M_isZero_21 : decode b_M_isZero 21 = .ok (.invokevirtual 147, 3) := by decide +kernel
theorem dd_M_isZero_24 : decode b_M_isZero 24 = .ok (.ifCond .eq 22, 3) := by decide +kernel
theorem dd_M_isZero_27 : decode b_M_isZero 27 = .ok (.aload_n 0, 1) := by decide +kernel
theorem dd_M_isZero_28 : decode b_M_isZero 28 = .ok (.getfield 7, 3) := by decide +kernel
theorem dd_M_isZero_31 : decode b_M_isZero 31 = .ok (.iload_n 3, 1) := by decide +kernel
theorem dd_M_isZero_32 : decode b_M_isZero 32 = .ok (.baload, 1) := by decide +kernel
theorem dd_M_isZero_33 : decode b_M_isZero 33 = .ok (.bipush 48, 2) := by decide +kernel
theorem dd_M_isZero_35 : decode b_M_isZero 35 = .ok (.if_icmp .eq 5, 3) := by decide +kernel
theorem dd_M_isZero_38 : decode b_M_isZero 38 = .ok (.iconst 0, 1) := by decide +kernel
theorem dd_M_isZero_39 : decode b_M_isZero 39 = .ok (.ireturn, 1) := by decide +kernel
theorem dd_M_isZero_40 : decode b_M_isZero 40 = .ok (.iinc 3 1, 3) := by decide +kernel
theorem dd_M_isZero_43 : decode b_M_isZero 43 = .ok (.goto (-25), 3) := by decide +kernel
theorem dd_M_isZero_46 : decode b_M_isZero 46 = .ok (.iconst 1, 1) := by decide +kernel
theorem dd_M_isZero_47 : decode b_M_isZero 47 = .ok (.ireturn, 1) := by decide +kernel
theorem dd_M_sign_0 : decode b_M_sign 0 = .ok (.aload_n 0, 1) := by decide +kernel
theorem dd_M_sign_1 : decode b_M_sign 1 = .ok (.aload_n 0, 1) := by decide +kernel
theorem dd_M_sign_2 : decode b_M_sign 2 = .ok (.iload_n 1, 1) := by decide +kernel
theorem dd_M_sign_3 : decode b_M_sign 3 = .ok (.iload_n 2, 1) := by decide +kernel
theorem dd_M_sign_4 : decode b_M_sign 4 = .ok (.invokevirtual 156, 3) := by decide +kernel
theorem dd_M_sign_7 : decode b_M_sign 7 = .ok (.iload_n 2, 1) := by decide +kernel
theorem dd_M_sign_8 : decode b_M_sign 8 = .ok (.invokevirtual 159, 3) := by decide +kernel
theorem dd_M_sign_11 : decode b_M_sign 11 = .ok (.ifCond .eq 5, 3) := by decide +kernel
theorem dd_M_sign_14 : decode b_M_sign 14 = .ok (.iconst 0, 1) := by decide +kernel
theorem dd_M_sign_15 : decode b_M_sign 15 = .ok (.ireturn, 1) := by decide +kernel
theorem dd_M_sign_16 : decode b_M_sign 16 = .ok (.aload_n 0, 1) := by decide +kernel
theorem dd_M_sign_17 : decode b_M_sign 17 = .ok (.aload_n 0, 1) := by decide +kernel
theorem dd_M_sign_18 : decode b_M_sign 18 = .ok (.iload_n 1, 1) := by decide +kernel
theorem dd_M_sign_19 : decode b_M_sign 19 = .ok (.iload_n 2, 1) := by decide +kernel
theorem dd_M_sign_20 : decode b_M_sign 20 = .ok (.invokevirtual 141, 3) := by decide +kernel
theorem dd_M_sign_23 : decode b_M_sign 23 = .ok (.iload_n 2, 1) := by decide +kernel
theorem dd_M_sign_24 : decode b_M_sign 24 = .ok (.invokevirtual 144, 3) := by decide +kernel
theorem dd_M_sign_27 : decode b_M_sign 27 = .ok (.ifCond .eq 7, 3) := by decide +kernel
theorem dd_M_sign_30 : decode b_M_sign 30 = .ok (.iconst (-1), 1) := by decide +kernel
theorem dd_M_sign_31 : decode b_M_sign 31 = .ok (.goto 4, 3) := by decide +kernel
theorem dd_M_sign_34 : decode b_M_sign 34 = .ok (.iconst 1, 1) := by decide +kernel
theorem dd_M_sign_35 : decode b_M_sign 35 = .ok (.ireturn, 1) := by decide +kernel
end
section
theorem dd_M_numbers_0 : decode b_M_numbers 0 = .ok (.aload_n 0, 1) := by decide +kernel
theorem dd_M_numbers_1 : decode b_M_numbers 1 = .ok (.iload_n 1, 1) := by decide +kernel
theorem dd_M_numbers_2 : decode b_M_numbers 2 = .ok (.iload_n 2, 1) := by decide +kernel
theorem dd_M_numbers_3 : decode b_M_numbers 3 = .ok (.invokevirtual 162, 3) := by decide +kernel
theorem dd_M_numbers_6 : decode b_M_numbers 6 = .ok (.istore 5, 2) := by decide +kernel
theorem dd_M_numbers_8 : decode b_M_numbers 8 = .ok (.aload_n 0, 1) := by decide +kernel
theorem dd_M_numbers_9 : decode b_M_numbers 9 = .ok (.iload_n 3, 1) := by decide +kernel
theorem dd_M_numbers_10 : decode b_M_numbers 10 = .ok (.iload 4, 2) := by decide +kernel
theorem dd_M_numbers_12 : decode b_M_numbers 12 = .ok (.invokevirtual 162, 3) := by decide +kernel
theorem dd_M_numbers_15 : decode b_M_numbers 15 = .ok (.istore 6, 2) := by decide +kernel
theorem dd_M_numbers_17 : decode b_M_numbers 17 = .ok (.iload 5, 2) := by decide +kernel
theorem dd_M_numbers_19 : decode b_M_numbers 19 = .ok (.iload 6, 2) := by decide +kernel
theorem dd_M_numbers_21 : decode b_M_numbers 21 = .ok (.if_icmp .eq 16, 3) := by decide +kernel
theorem dd_M_numbers_24 : decode b_M_numbers 24 = .ok (.iload 5, 2) := by decide +kernel
theorem dd_M_numbers_26 : decode b_M_numbers 26 = .ok (.iload 6, 2) := by decide +kernel
theorem dd_M_numbers_28 : decode b_M_numbers 28 = .ok (.if_icmp .ge 7, 3) := by decide +kernel
theorem dd_M_numbers_31 : decode b_M_numbers 31 = .ok (.iconst (-1), 1) := by decide +kernel
theorem dd_M_numbers_32 : decode b_M_numbers 32 = .ok (.goto 4, 3) := by decide +kernel
theorem dd_M_numbers_35 : decode b_M_numbers 35 = .ok (.iconst 1, 1) := by decide +kernel
theorem dd_M_numbers_36 : decode b_M_numbers 36 = .ok (.ireturn, 1) := by decide +kernel
theorem dd_M_numbers_37 : decode b_M_numbers 37 = .ok (.iload 5, 2) := by decide +kernel
theorem dd_M_numbers_39 : decode b_M_numbers 39 = .ok (.ifCond .ne 7, 3) := by decide +kernel
theorem dd_M_numbers_42 : decode b_M_numbers 42 = .ok (.iconst 0, 1) := by decide +kernel
theorem dd_M_numbers_43 : decode b_M_numbers 43 = .ok (.goto 26, 3) := by decide +kernel
theorem dd_M_numbers_46 : decode b_M_numbers 46 = .ok (.iload 5, 2) := by decide +kernel
theorem dd_M_numbers_48 : decode b_M_numbers 48 = .ok (.aload_n 0, 1) := by decide +kernel
theorem dd_M_numbers_49 : decode b_M_numbers 49 = .ok (.aload_n 0, 1) := by decide +kernel
theorem dd_M_numbers_50 : decode b_M_numbers 50 = .ok (.iload_n 1, 1) := by decide +kernel
theorem dd_M_numbers_51 : decode b_M_numbers 51 = .ok (.iload_n 2, 1) := by decide +kernel
theorem dd_M_numbers_52 : decode b_M_numbers 52 = .ok (.invokevirtual 156, 3) := by decide +kernel
theorem dd_M_numbers_55 : decode b_M_numbers 55 = .ok (.iload_n 2, 1) := by decide +kernel
theorem dd_M_numbers_56 : decode b_M_numbers 56 = .ok (.aload_n 0, 1) := by decide +kernel
theorem dd_M_numbers_57 : decode b_M_numbers 57 = .ok (.iload_n 3, 1) := by decide +kernel
theorem dd_M_numbers_58 : decode b_M_numbers 58 = .ok (.iload 4, 2) := by decide +kernel
theorem dd_M_numbers_60 : decode b_M_numbers 60 = .ok (.invokevirtual 156, 3) := by decide +kernel
theorem dd_M_numbers_63 : decode b_M_numbers 63 = .ok (.iload 4, 2) := by decide +kernel
theorem dd_M_numbers_65 : decode b_M_numbers 65 = .ok (.invokevirtual 165, 3) := by decide +kernel
theorem dd_M_numbers_68 : decode b_M_numbers 68 = .ok (.imul, 1) := by decide +kernel
theorem dd_M_numbers_69 : decode b_M_numbers 69 = .ok (.ireturn, 1) := by decide +kernel
theorem dd_M_byKeys_0 : decode b_M_byKeys 0 = .ok (.iconst 0, 1) := by decide +kernel
theorem dd_M_byKeys_1 : decode b_M_byKeys 1 = .ok (.istore_n 3, 1) := by decide +kernel
theorem dd_M_byKeys_2 : decode b_M_byKeys 2 = .ok (.iload_n 3, 1) := by decide +kernel
theorem dd_M_byKeys_3 : decode b_M_byKeys 3 = .ok (.aload_n 0, 1) := by decide +kernel
theorem dd_M_byKeys_4 : decode b_M_byKeys 4 = .ok (.invokevirtual 168, 3) := by decide +kernel
theorem dd_M_byKeys_7 : decode b_M_byKeys 7 = .ok (.if_icmp .ge 110, 3) := by decide +kernel
theorem dd_M_byKeys_10 : decode b_M_byKeys 10 = .ok (.aload_n 0, 1) := by decide +kernel
theorem dd_M_byKeys_11 : decode b_M_byKeys 11 = .ok (.iload_n 3, 1) := by decide +kernel
theorem dd_M_byKeys_12 : decode b_M_byKeys 12 = .ok (.iconst 4, 1) := by decide +kernel
theorem dd_M_byKeys_13 : decode b_M_byKeys 13 = .ok (.invokevirtual 114, 3) := by decide +kernel
theorem dd_M_byKeys_16 : decode b_M_byKeys 16 = .ok (.istore 4, 2) := by decide +kernel
theorem dd_M_byKeys_18 : decode b_M_byKeys 18 = .ok (.aload_n 0, 1) := by decide +kernel
theorem dd_M_byKeys_19 : decode b_M_byKeys 19 = .ok (.iload_n 1, 1) := by decide +kernel
theorem dd_M_byKeys_20 : decode b_M_byKeys 20 = .ok (.iload_n 3, 1) := by decide +kernel
theorem dd_M_byKeys_21 : decode b_M_byKeys 21 = .ok (.invokevirtual 172, 3) := by decide +kernel
theorem dd_M_byKeys_24 : decode b_M_byKeys 24 = .ok (.istore 5, 2) := by decide +kernel
theorem dd_M_byKeys_26 : decode b_M_byKeys 26 = .ok (.aload_n 0, 1) := by decide +kernel
theorem dd_M_byKeys_27 : decode b_M_byKeys 27 = .ok (.iload_n 2, 1) := by decide +kernel
theorem dd_M_byKeys_28 : decode b_M_byKeys 28 = .ok (.iload_n 3, 1) := by decide +kernel
theorem dd_M_byKeys_29 : decode b_M_byKeys 29 = .ok (.invokevirtual 172, 3) := by decide +kernel
theorem dd_M_byKeys_32 : decode b_M_byKeys 32 = .ok (.istore 6, 2) := by decide +kernel
theorem dd_M_byKeys_34 : decode b_M_byKeys 34 = .ok (.iload 4, 2) := by decide +kernel
theorem dd_M_byKeys_36 : decode b_M_byKeys 36 = .ok (.bipush 16, 2) := by decide +kernel
theorem dd_M_byKeys_38 : decode b_M_byKeys 38 = .ok (.iand, 1) := by decide +kernel
theorem dd_M_byKeys_39 : decode b_M_byKeys 39 = .ok (.ifCond .le 26, 3) := by decide +kernel
theorem dd_M_byKeys_42 : decode b_M_byKeys 42 = .ok (.aload_n 0, 1) := by decide +kernel
theorem dd_M_byKeys_43 : decode b_M_byKeys 43 = .ok (.iload 5, 2) := by decide +kernel
theorem dd_M_byKeys_45 : decode b_M_byKeys 45 = .ok (.aload_n 0, 1) := by decide +kernel
theorem dd_M_byKeys_46 : decode b_M_byKeys 46 = .ok (.iload_n 1, 1) := by decide +kernel
theorem dd_M_byKeys_47 : decode b_M_byKeys 47 = .ok (.iload_n 3, 1) := by decide +kernel
theorem dd_M_byKeys_48 : decode b_M_byKeys 48 = .ok (.invokevirtual 175, 3) := by decide +kernel
theorem dd_M_byKeys_51 : decode b_M_byKeys 51 = .ok (.iload 6, 2) := by decide +kernel
theorem dd_M_byKeys_53 : decode b_M_byKeys 53 = .ok (.aload_n 0, 1) := by decide +kernel
theorem dd_M_byKeys_54 : decode b_M_byKeys 54 = .ok (.iload_n 2, 1) := by decide +kernel
theorem dd_M_byKeys_55 : decode b_M_byKeys 55 = .ok (.iload_n 3, 1) := by decide +kernel
theorem dd_M_byKeys_56 : decode b_M_byKeys 56 = .ok (.invokevirtual 175, 3) := by decide +kernel
theorem dd_M_byKeys_59 : decode b_M_byKeys 59 = .ok (.invokevirtual 178, 3) := by decide +kernel
theorem dd_M_byKeys_62 : decode b_M_byKeys 62 = .ok (.goto 25, 3) := by decide +kernel
theorem dd_M_byKeys_65 : decode b_M_byKeys 65 = .ok (.aload_n 0, 1) := by decide +kernel
theorem dd_M_byKeys_66 : decode b_M_byKeys 66 = .ok (.iload 5, 2) := by decide +kernel
theorem dd_M_byKeys_68 : decode b_M_byKeys 68 = .ok (.aload_n 0, 1) := by decide +kernel
theorem dd_M_byKeys_69 : decode b_M_byKeys 69 = .ok (.iload_n 1, 1) := by decide +kernel
theorem dd_M_byKeys_70 : decode b_M_byKeys 70 = .ok (.iload_n 3, 1) := by decide +kernel
theorem dd_M_byKeys_71 : decode b_M_byKeys 71 = .ok (.invokevirtual 175, 3) := by decide +kernel
theorem dd_M_byKeys_74 : decode b_M_byKeys 74 = .ok (.iload 6, 2) := by decide +kernel
theorem dd_M_byKeys_76 : decode b_M_byKeys 76 = .ok (.aload_n 0, 1) := by decide +kernel
theorem dd_M_byKeys_77 : decode b_M_byKeys 77 = .ok (.iload_n 2, 1) := by decide +kernel
theorem dd_M_byKeys_78 : decode b_M_byKeys 78 = .ok (.iload_n 3, 1) := by decide +kernel
theorem dd_M_byKeys_79 : decode b_M_byKeys 79 = .ok (.invokevirtual 175, 3) := by decide +kernel
theorem dd_M_byKeys_82 : decode b_M_byKeys 82 = .ok (.iload 4, 2) := by decide +kernel
theorem dd_M_byKeys_84 : decode b_M_byKeys 84 = .ok (.invokevirtual 181, 3) := by decide +kernel
theorem dd_M_byKeys_87 : decode b_M_byKeys 87 = .ok (.istore 7, 2) := by decide +kernel
theorem dd_M_byKeys_89 : decode b_M_byKeys 89 = .ok (.iload 7, 2) := by decide +kernel
theorem dd_M_byKeys_91 : decode b_M_byKeys 91 = .ok (.ifCond .eq 20, 3) := by decide +kernel
theorem dd_M_byKeys_94 : decode b_M_byKeys 94 = .ok (.iload 4, 2) := by decide +kernel
theorem dd_M_byKeys_96 : decode b_M_byKeys 96 = .ok (.bipush 32, 2) := by decide +kernel
theorem dd_M_byKeys_98 : decode b_M_byKeys 98 = .ok (.iand, 1) := by decide +kernel
theorem dd_M_byKeys_99 : decode b_M_byKeys 99 = .ok (.ifCond .le 9, 3) := by decide +kernel
theorem dd_M_byKeys_102 : decode b_M_byKeys 102 = .ok (.iload 7, 2) := by decide +kernel
theorem dd_M_byKeys_104 : decode b_M_byKeys 104 = .ok (.ineg, 1) := by decide +kernel
theorem dd_M_byKeys_105 : decode b_M_byKeys 105 = .ok (.goto 5, 3) := by decide +kernel
theorem dd_M_byKeys_108 : decode b_M_byKeys 108 = .ok (.iload 7, 2) := by decide +kernel
theorem dd_M_byKeys_110 : decode b_M_byKeys 110 = .ok (.ireturn, 1) := by decide +kernel
theorem dd_M_byKeys_111 : decode b_M_byKeys 111 = .ok (.iinc 3 1, 3) := by decide +kernel
theorem dd_M_byKeys_114 : decode b_M_byKeys 114 = .ok (.goto (-112), 3) := by decide +kernel
theorem dd_M_byKeys_117 : decode b_M_byKeys 117 = .ok (.iconst 0, 1) := by decide +kernel
theorem dd_M_byKeys_118 : decode b_M_byKeys 118 = .ok (.ireturn, 1) := by decide +kernel
theorem dd_M_byAll_0 : decode b_M_byAll 0 = .ok (.aload_n 0, 1) := by decide +kernel
theorem dd_M_byAll_1 : decode b_M_byAll 1 = .ok (.iload_n 1, 1) := by decide +kernel
theorem dd_M_byAll_2 : decode b_M_byAll 2 = .ok (.iload_n 2, 1) := by decide +kernel
theorem dd_M_byAll_3 : decode b_M_byAll 3 = .ok (.invokevirtual 185, 3) := by decide +kernel
theorem dd_M_byAll_6 : decode b_M_byAll 6 = .ok (.istore_n 3, 1) := by decide +kernel
theorem dd_M_byAll_7 : decode b_M_byAll 7 = .ok (.iload_n 3, 1) := by decide +kernel
theorem dd_M_byAll_8 : decode b_M_byAll 8 = .ok (.ifCond .ne 17, 3) := by decide +kernel
theorem dd_M_byAll_11 : decode b_M_byAll 11 = .ok (.aload_n 0, 1) := by decide +kernel
theorem dd_M_byAll_12 : decode b_M_byAll 12 = .ok (.getfield 88, 3) := by decide +kernel
theorem dd_M_byAll_15 : decode b_M_byAll 15 = .ok (.ifCond .ne 10, 3) := by decide +kernel
theorem dd_M_byAll_18 : decode b_M_byAll 18 = .ok (.aload_n 0, 1) := by decide +kernel
theorem dd_M_byAll_19 : decode b_M_byAll 19 = .ok (.getfield 91, 3) := by decide +kernel
theorem dd_M_byAll_22 : decode b_M_byAll 22 = .ok (.ifCond .eq 5, 3) := by decide +kernel
theorem dd_M_byAll_25 : decode b_M_byAll 25 = .ok (.iload_n 3, 1) := by decide +kernel
theorem dd_M_byAll_26 : decode b_M_byAll 26 = .ok (.ireturn, 1) := by decide +kernel
theorem dd_M_byAll_27 : decode b_M_byAll 27 = .ok (.aload_n 0, 1) := by decide +kernel
theorem dd_M_byAll_28 : decode b_M_byAll 28 = .ok (.aload_n 0, 1) := by decide +kernel
theorem dd_M_byAll_29 : decode b_M_byAll 29 = .ok (.iload_n 1, 1) := by decide +kernel
theorem dd_M_byAll_30 : decode b_M_byAll 30 = .ok (.invokevirtual 101, 3) := by decide +kernel
theorem dd_M_byAll_33 : decode b_M_byAll 33 = .ok (.aload_n 0, 1) := by decide +kernel
theorem dd_M_byAll_34 : decode b_M_byAll 34 = .ok (.iload_n 1, 1) := by decide +kernel
theorem dd_M_byAll_35 : decode b_M_byAll 35 = .ok (.invokevirtual 97, 3) := by decide +kernel
theorem dd_M_byAll_38 : decode b_M_byAll 38 = .ok (.aload_n 0, 1) := by decide +kernel
theorem dd_M_byAll_39 : decode b_M_byAll 39 = .ok (.iload_n 2, 1) := by decide +kernel
theorem dd_M_byAll_40 : decode b_M_byAll 40 = .ok (.invokevirtual 101, 3) := by decide +kernel
theorem dd_M_byAll_43 : decode b_M_byAll 43 = .ok (.aload_n 0, 1) := by decide +kernel
theorem dd_M_byAll_44 : decode b_M_byAll 44 = .ok (.iload_n 2, 1) := by decide +kernel
theorem dd_M_byAll_45 : decode b_M_byAll 45 = .ok (.invokevirtual 97, 3) := by decide +kernel
theorem dd_M_byAll_48 : decode b_M_byAll 48 = .ok (.iconst 0, 1) := by decide +kernel
theorem dd_M_byAll_49 : decode b_M_byAll 49 = .ok (.invokevirtual 181, 3) := by decide +kernel
theorem dd_M_byAll_52 : decode b_M_byAll 52 = .ok (.istore 4, 2) := by decide +kernel
theorem dd_M_byAll_54 : decode b_M_byAll 54 = .ok (.aload_n 0, 1) := by decide +kernel
theorem dd_M_byAll_55 : decode b_M_byAll 55 = .ok (.getfield 85, 3) := by decide +kernel
theorem dd_M_byAll_58 : decode b_M_byAll 58 = .ok (.bipush 32, 2) := by decide +kernel
theorem dd_M_byAll_60 : decode b_M_byAll 60 = .ok (.iand, 1) := by decide +kernel
theorem dd_M_byAll_61 : decode b_M_byAll 61 = .ok (.ifCond .le 9, 3) := by decide +kernel
theorem dd_M_byAll_64 : decode b_M_byAll 64 = .ok (.iload 4, 2) := by decide +kernel
theorem dd_M_byAll_66 : decode b_M_byAll 66 = .ok (.ineg, 1) := by decide +kernel
theorem dd_M_byAll_67 : decode b_M_byAll 67 = .ok (.goto 5, 3) := by decide +kernel
theorem dd_M_byAll_70 : decode b_M_byAll 70 = .ok (.iload 4, 2) := by decide +kernel
theorem dd_M_byAll_72 : decode b_M_byAll 72 = .ok (.ireturn, 1) := by decide +kernel
theorem dd_M_isBefore_0 : decode b_M_isBefore 0 = .ok (.aload_n 0, 1) := by decide +kernel
theorem dd_M_isBefore_1 : decode b_M_isBefore 1 = .ok (.iload_n 1, 1) := by decide +kernel
theorem dd_M_isBefore_2 : decode b_M_isBefore 2 = .ok (.iload_n 2, 1) := by decide +kernel
theorem dd_M_isBefore_3 : decode b_M_isBefore 3 = .ok (.invokevirtual 188, 3) := by decide +kernel
theorem dd_M_isBefore_6 : decode b_M_isBefore 6 = .ok (.istore_n 3, 1) := by decide +kernel
theorem dd_M_isBefore_7 : decode b_M_isBefore 7 = .ok (.iload_n 3, 1) := by decide +kernel
theorem dd_M_isBefore_8 : decode b_M_isBefore 8 = .ok (.ifCond .lt 12, 3) := by decide +kernel
theorem dd_M_isBefore_11 : decode b_M_isBefore 11 = .ok (.iload_n 3, 1) := by decide +kernel
theorem dd_M_isBefore_12 : decode b_M_isBefore 12 = .ok (.ifCond .ne 12, 3) := by decide +kernel
theorem dd_M_isBefore_15 : decode b_M_isBefore 15 = .ok (.iload_n 1, 1) := by decide +kernel
theorem dd_M_isBefore_16 : decode b_M_isBefore 16 = .ok (.iload_n 2, 1) := by decide +kernel
theorem dd_M_isBefore_17 : decode b_M_isBefore 17 = .ok (.if_icmp .ge 7, 3) := by decide +kernel
theorem dd_M_isBefore_20 : decode b_M_isBefore 20 = .ok (.iconst 1, 1) := by decide +kernel
theorem dd_M_isBefore_21 : decode b_M_isBefore 21 = .ok (.goto 4, 3) := by decide +kernel
theorem dd_M_isBefore_24 : decode b_M_isBefore 24 = .ok (.iconst 0, 1) := by decide +kernel
theorem dd_M_isBefore_25 : decode b_M_isBefore 25 = .ok (.ireturn, 1) := by decide +kernel
theorem dd_M_lines_0 : decode b_M_lines 0 = .ok (.aload_n 0, 1) := by decide +kernel
theorem dd_M_lines_1 : decode b_M_lines 1 = .ok (.iconst 0, 1) := by decide +kernel
theorem dd_M_lines_2 : decode b_M_lines 2 = .ok (.putfield 57, 3) := by decide +kernel
theorem dd_M_lines_5 : decode b_M_lines 5 = .ok (.aload_n 0, 1) := by decide +kernel
theorem dd_M_lines_6 : decode b_M_lines 6 = .ok (.invokevirtual 191, 3) := by decide +kernel
theorem dd_M_lines_9 : decode b_M_lines 9 = .ok (.aload_n 0, 1) := by decide +kernel
theorem dd_M_lines_10 : decode b_M_lines 10 = .ok (.getfield 78, 3) := by decide +kernel
theorem dd_M_lines_13 : decode b_M_lines 13 = .ok (.ireturn, 1) := by decide +kernel
theorem dd_M_place_0 : decode b_M_place 0 = .ok (.aload_n 0, 1) := by decide +kernel
theorem dd_M_place_1 : decode b_M_place 1 = .ok (.invokevirtual 191, 3) := by decide +kernel
theorem dd_M_place_4 : decode b_M_place 4 = .ok (.aload_n 0, 1) := by decide +kernel
theorem dd_M_place_5 : decode b_M_place 5 = .ok (.iload_n 1, 1) := by decide +kernel
theorem dd_M_place_6 : decode b_M_place 6 = .ok (.ifCond .lt 23, 3) := by decide +kernel
theorem dd_M_place_9 : decode b_M_place 9 = .ok (.iload_n 1, 1) := by decide +kernel
theorem dd_M_place_10 : decode b_M_place 10 = .ok (.aload_n 0, 1) := by decide +kernel
theorem dd_M_place_11 : decode b_M_place 11 = .ok (.getfield 78, 3) := by decide +kernel
theorem dd_M_place_14 : decode b_M_place 14 = .ok (.if_icmp .ge 15, 3) := by decide +kernel
theorem dd_M_place_17 : decode b_M_place 17 = .ok (.iload_n 2, 1) := by decide +kernel
theorem dd_M_place_18 : decode b_M_place 18 = .ok (.ifCond .lt 11, 3) := by decide +kernel
theorem dd_M_place_21 : decode b_M_place 21 = .ok (.iload_n 2, 1) := by decide +kernel
theorem dd_M_place_22 : decode b_M_place 22 = .ok (.aload_n 0, 1) := by decide +kernel
theorem dd_M_place_23 : decode b_M_place 23 = .ok (.invokevirtual 168, 3) := by decide +kernel
theorem dd_M_place_26 : decode b_M_place 26 = .ok (.if_icmp .lt 7, 3) := by decide +kernel
theorem dd_M_place_29 : decode b_M_place 29 = .ok (.iconst 1, 1) := by decide +kernel
theorem dd_M_place_30 : decode b_M_place 30 = .ok (.goto 4, 3) := by decide +kernel
theorem dd_M_place_33 : decode b_M_place 33 = .ok (.iconst 0, 1) := by decide +kernel
theorem dd_M_place_34 : decode b_M_place 34 = .ok (.iconst 1, 1) := by decide +kernel
theorem dd_M_place_35 : decode b_M_place 35 = .ok (.invokevirtual 70, 3) := by decide +kernel
theorem dd_M_place_38 : decode b_M_place 38 = .ok (.ifCond .eq 5, 3) := by decide +kernel
theorem dd_M_place_41 : decode b_M_place 41 = .ok (.iconst 0, 1) := by decide +kernel
theorem dd_M_place_42 : decode b_M_place 42 = .ok (.ireturn, 1) := by decide +kernel
theorem dd_M_place_43 : decode b_M_place 43 = .ok (.iload_n 3, 1) := by decide +kernel
theorem dd_M_place_44 : decode b_M_place 44 = .ok (.ifCond .eq 12, 3) := by decide +kernel
theorem dd_M_place_47 : decode b_M_place 47 = .ok (.aload_n 0, 1) := by decide +kernel
theorem dd_M_place_48 : decode b_M_place 48 = .ok (.iload_n 1, 1) := by decide +kernel
theorem dd_M_place_49 : decode b_M_place 49 = .ok (.iload_n 2, 1) := by decide +kernel
theorem dd_M_place_50 : decode b_M_place 50 = .ok (.invokevirtual 132, 3) := by decide +kernel
theorem dd_M_place_53 : decode b_M_place 53 = .ok (.goto 9, 3) := by decide +kernel
theorem dd_M_place_56 : decode b_M_place 56 = .ok (.aload_n 0, 1) := by decide +kernel
theorem dd_M_place_57 : decode b_M_place 57 = .ok (.iload_n 1, 1) := by decide +kernel
theorem dd_M_place_58 : decode b_M_place 58 = .ok (.iload_n 2, 1) := by decide +kernel
theorem dd_M_place_59 : decode b_M_place 59 = .ok (.invokevirtual 129, 3) := by decide +kernel
theorem dd_M_place_62 : decode b_M_place 62 = .ok (.aload_n 0, 1) := by decide +kernel
theorem dd_M_place_63 : decode b_M_place 63 = .ok (.iload_n 1, 1) := by decide +kernel
theorem dd_M_place_64 : decode b_M_place 64 = .ok (.invokevirtual 101, 3) := by decide +kernel
theorem dd_M_place_67 : decode b_M_place 67 = .ok (.isub, 1) := by decide +kernel
theorem dd_M_place_68 : decode b_M_place 68 = .ok (.ireturn, 1) := by decide +kernel
theorem dd_M_compare_0 : decode b_M_compare 0 = .ok (.aload_n 0, 1) := by decide +kernel
theorem dd_M_compare_1 : decode b_M_compare 1 = .ok (.invokevirtual 191, 3) := by decide +kernel
theorem dd_M_compare_4 : decode b_M_compare 4 = .ok (.aload_n 0, 1) := by decide +kernel
theorem dd_M_compare_5 : decode b_M_compare 5 = .ok (.iload_n 1, 1) := by decide +kernel
theorem dd_M_compare_6 : decode b_M_compare 6 = .ok (.ifCond .lt 23, 3) := by decide +kernel
theorem dd_M_compare_9 : decode b_M_compare 9 = .ok (.iload_n 1, 1) := by decide +kernel
theorem dd_M_compare_10 : decode b_M_compare 10 = .ok (.aload_n 0, 1) := by decide +kernel
theorem dd_M_compare_11 : decode b_M_compare 11 = .ok (.getfield 78, 3) := by decide +kernel
theorem dd_M_compare_14 : decode b_M_compare 14 = .ok (.if_icmp .ge 15, 3) := by decide +kernel
theorem dd_M_compare_17 : decode b_M_compare 17 = .ok (.iload_n 2, 1) := by decide +kernel
theorem dd_M_compare_18 : decode b_M_compare 18 = .ok (.ifCond .lt 11, 3) := by decide +kernel
theorem dd_M_compare_21 : decode b_M_compare 21 = .ok (.iload_n 2, 1) := by decide +kernel
theorem dd_M_compare_22 : decode b_M_compare 22 = .ok (.aload_n 0, 1) := by decide +kernel
theorem dd_M_compare_23 : decode b_M_compare 23 = .ok (.getfield 78, 3) := by decide +kernel
theorem dd_M_compare_26 : decode b_M_compare 26 = .ok (.if_icmp .lt 7, 3) := by decide +kernel
theorem dd_M_compare_29 : decode b_M_compare 29 = .ok (.iconst 1, 1) := by decide +kernel
theorem dd_M_compare_30 : decode b_M_compare 30 = .ok (.goto 4, 3) := by decide +kernel
theorem dd_M_compare_33 : decode b_M_compare 33 = .ok (.iconst 0, 1) := by decide +kernel
theorem dd_M_compare_34 : decode b_M_compare 34 = .ok (.iconst 1, 1) := by decide +kernel
theorem dd_M_compare_35 : decode b_M_compare 35 = .ok (.invokevirtual 70, 3) := by decide +kernel
theorem dd_M_compare_38 : decode b_M_compare 38 = .ok (.ifCond .eq 5, 3) := by decide +kernel
theorem dd_M_compare_41 : decode b_M_compare 41 = .ok (.iconst 0, 1) := by decide +kernel
theorem dd_M_compare_42 : decode b_M_compare 42 = .ok (.ireturn, 1) := by decide +kernel
theorem dd_M_compare_43 : decode b_M_compare 43 = .ok (.aload_n 0, 1) := by decide +kernel
theorem dd_M_compare_44 : decode b_M_compare 44 = .ok (.iload_n 1, 1) := by decide +kernel
theorem dd_M_compare_45 : decode b_M_compare 45 = .ok (.iload_n 2, 1) := by decide +kernel
theorem dd_M_compare_46 : decode b_M_compare 46 = .ok (.invokevirtual 185, 3) := by decide +kernel
theorem dd_M_compare_49 : decode b_M_compare 49 = .ok (.ireturn, 1) := by decide +kernel
theorem dd_M_hold_0 : decode b_M_hold 0 = .ok (.iconst 0, 1) := by decide +kernel
theorem dd_M_hold_1 : decode b_M_hold 1 = .ok (.istore_n 1, 1) := by decide +kernel
theorem dd_M_hold_2 : decode b_M_hold 2 = .ok (.iload_n 1, 1) := by decide +kernel
theorem dd_M_hold_3 : decode b_M_hold 3 = .ok (.aload_n 0, 1) := by decide +kernel
theorem dd_M_hold_4 : decode b_M_hold 4 = .ok (.getfield 78, 3) := by decide +kernel
theorem dd_M_hold_7 : decode b_M_hold 7 = .ok (.if_icmp .ge 59, 3) := by decide +kernel
theorem dd_M_hold_10 : decode b_M_hold 10 = .ok (.iconst 0, 1) := by decide +kernel
theorem dd_M_hold_11 : decode b_M_hold 11 = .ok (.istore_n 2, 1) := by decide +kernel
theorem dd_M_hold_12 : decode b_M_hold 12 = .ok (.iload_n 2, 1) := by decide +kernel
theorem dd_M_hold_13 : decode b_M_hold 13 = .ok (.aload_n 0, 1) := by decide +kernel
theorem dd_M_hold_14 : decode b_M_hold 14 = .ok (.invokevirtual 168, 3) := by decide +kernel
theorem dd_M_hold_17 : decode b_M_hold 17 = .ok (.if_icmp .ge 43, 3) := by decide +kernel
theorem dd_M_hold_20 : decode b_M_hold 20 = .ok (.aload_n 0, 1) := by decide +kernel
theorem dd_M_hold_21 : decode b_M_hold 21 = .ok (.getfield 30, 3) := by decide +kernel
theorem dd_M_hold_24 : decode b_M_hold 24 = .ok (.bipush 6, 2) := by decide +kernel
theorem dd_M_hold_26 : decode b_M_hold 26 = .ok (.iload_n 1, 1) := by decide +kernel
theorem dd_M_hold_27 : decode b_M_hold 27 = .ok (.imul, 1) := by decide +kernel
theorem dd_M_hold_28 : decode b_M_hold 28 = .ok (.iload_n 2, 1) := by decide +kernel
theorem dd_M_hold_29 : decode b_M_hold 29 = .ok (.iadd, 1) := by decide +kernel
theorem dd_M_hold_30 : decode b_M_hold 30 = .ok (.aload_n 0, 1) := by decide +kernel
theorem dd_M_hold_31 : decode b_M_hold 31 = .ok (.iload_n 1, 1) := by decide +kernel
theorem dd_M_hold_32 : decode b_M_hold 32 = .ok (.iload_n 2, 1) := by decide +kernel
theorem dd_M_hold_33 : decode b_M_hold 33 = .ok (.invokevirtual 129, 3) := by decide +kernel
theorem dd_M_hold_36 : decode b_M_hold 36 = .ok (.iastore, 1) := by decide +kernel
theorem dd_M_hold_37 : decode b_M_hold 37 = .ok (.aload_n 0, 1) := by decide +kernel
theorem dd_M_hold_38 : decode b_M_hold 38 = .ok (.getfield 33, 3) := by decide +kernel
theorem dd_M_hold_41 : decode b_M_hold 41 = .ok (.bipush 6, 2) := by decide +kernel
theorem dd_M_hold_43 : decode b_M_hold 43 = .ok (.iload_n 1, 1) := by decide +kernel
theorem dd_M_hold_44 : decode b_M_hold 44 = .ok (.imul, 1) := by decide +kernel
theorem dd_M_hold_45 : decode b_M_hold 45 = .ok (.iload_n 2, 1) := by decide +kernel
theorem dd_M_hold_46 : decode b_M_hold 46 = .ok (.iadd, 1) := by decide +kernel
theorem dd_M_hold_47 : decode b_M_hold 47 = .ok (.aload_n 0, 1) := by decide +kernel
theorem dd_M_hold_48 : decode b_M_hold 48 = .ok (.iload_n 1, 1) := by decide +kernel
theorem dd_M_hold_49 : decode b_M_hold 49 = .ok (.iload_n 2, 1) := by decide +kernel
theorem dd_M_hold_50 : decode b_M_hold 50 = .ok (.invokevirtual 132, 3) := by decide +kernel
theorem dd_M_hold_53 : decode b_M_hold 53 = .ok (.iastore, 1) := by decide +kernel
theorem dd_M_hold_54 : decode b_M_hold 54 = .ok (.iinc 2 1, 3) := by decide +kernel
theorem dd_M_hold_57 : decode b_M_hold 57 = .ok (.goto (-45), 3) := by decide +kernel
theorem dd_M_hold_60 : decode b_M_hold 60 = .ok (.iinc 1 1, 3) := by decide +kernel
theorem dd_M_hold_63 : decode b_M_hold 63 = .ok (.goto (-61), 3) := by decide +kernel
theorem dd_M_hold_66 : decode b_M_hold 66 = .ok (.aload_n 0, 1) := by decide +kernel
theorem dd_M_hold_67 : decode b_M_hold 67 = .ok (.iconst 1, 1) := by decide +kernel
theorem dd_M_hold_68 : decode b_M_hold 68 = .ok (.putfield 126, 3) := by decide +kernel
theorem dd_M_hold_71 : decode b_M_hold 71 = .ok (.return_, 1) := by decide +kernel
theorem dd_M_makeRuns_0 : decode b_M_makeRuns 0 = .ok (.iconst 0, 1) := by decide +kernel
theorem dd_M_makeRuns_1 : decode b_M_makeRuns 1 = .ok (.istore_n 1, 1) := by decide +kernel
theorem dd_M_makeRuns_2 : decode b_M_makeRuns 2 = .ok (.iconst 0, 1) := by decide +kernel
theorem dd_M_makeRuns_3 : decode b_M_makeRuns 3 = .ok (.istore_n 2, 1) := by decide +kernel
theorem dd_M_makeRuns_4 : decode b_M_makeRuns 4 = .ok (.aload_n 0, 1) := by decide +kernel
theorem dd_M_makeRuns_5 : decode b_M_makeRuns 5 = .ok (.iconst 0, 1) := by decide +kernel
theorem dd_M_makeRuns_6 : decode b_M_makeRuns 6 = .ok (.putfield 194, 3) := by decide +kernel
theorem dd_M_makeRuns_9 : decode b_M_makeRuns 9 = .ok (.iconst 0, 1) := by decide +kernel
theorem dd_M_makeRuns_10 : decode b_M_makeRuns 10 = .ok (.istore_n 3, 1) := by decide +kernel
theorem dd_M_makeRuns_11 : decode b_M_makeRuns 11 = .ok (.iload_n 1, 1) := by decide +kernel
theorem dd_M_makeRuns_12 : decode b_M_makeRuns 12 = .ok (.aload_n 0, 1) := by decide +kernel
theorem dd_M_makeRuns_13 : decode b_M_makeRuns 13 = .ok (.getfield 78, 3) := by decide +kernel
theorem dd_M_makeRuns_16 : decode b_M_makeRuns 16 = .ok (.if_icmp .ge 27, 3) := by decide +kernel
theorem dd_M_makeRuns_19 : decode b_M_makeRuns 19 = .ok (.iload_n 2, 1) := by decide +kernel
theorem dd_M_makeRuns_20 : decode b_M_makeRuns 20 = .ok (.aload_n 0, 1) := by decide +kernel
theorem dd_M_makeRuns_21 : decode b_M_makeRuns 21 = .ok (.getfield 24, 3) := by decide +kernel
theorem dd_M_makeRuns_24 : decode b_M_makeRuns 24 = .ok (.if_icmp .ge 19, 3) := by decide +kernel
theorem dd_M_makeRuns_27 : decode b_M_makeRuns 27 = .ok (.aload_n 0, 1) := by decide +kernel
theorem dd_M_makeRuns_28 : decode b_M_makeRuns 28 = .ok (.getfield 51, 3) := by decide +kernel
theorem dd_M_makeRuns_31 : decode b_M_makeRuns 31 = .ok (.iload_n 2, 1) := by decide +kernel
theorem dd_M_makeRuns_32 : decode b_M_makeRuns 32 = .ok (.iload_n 1, 1) := by decide +kernel
theorem dd_M_makeRuns_33 : decode b_M_makeRuns 33 = .ok (.iastore, 1) := by decide +kernel
theorem dd_M_makeRuns_34 : decode b_M_makeRuns 34 = .ok (.iinc 2 1, 3) := by decide +kernel
theorem dd_M_makeRuns_37 : decode b_M_makeRuns 37 = .ok (.iinc 1 1, 3) := by decide +kernel
theorem dd_M_makeRuns_40 : decode b_M_makeRuns 40 = .ok (.goto (-29), 3) := by decide +kernel
theorem dd_M_makeRuns_43 : decode b_M_makeRuns 43 = .ok (.iconst (-1), 1) := by decide +kernel
theorem dd_M_makeRuns_44 : decode b_M_makeRuns 44 = .ok (.istore 4, 2) := by decide +kernel
theorem dd_M_makeRuns_46 : decode b_M_makeRuns 46 = .ok (.iload_n 2, 1) := by decide +kernel
theorem dd_M_makeRuns_47 : decode b_M_makeRuns 47 = .ok (.ifCond .le 190, 3) := by decide +kernel
theorem dd_M_makeRuns_50 : decode b_M_makeRuns 50 = .ok (.iconst (-1), 1) := by decide +kernel
theorem dd_M_makeRuns_51 : decode b_M_makeRuns 51 = .ok (.istore 5, 2) := by decide +kernel
theorem dd_M_makeRuns_53 : decode b_M_makeRuns 53 = .ok (.iconst 0, 1) := by decide +kernel
theorem dd_M_makeRuns_54 : decode b_M_makeRuns 54 = .ok (.istore 6, 2) := by decide +kernel
theorem dd_M_makeRuns_56 : decode b_M_makeRuns 56 = .ok (.iload 6, 2) := by decide +kernel
theorem dd_M_makeRuns_58 : decode b_M_makeRuns 58 = .ok (.iload_n 2, 1) := by decide +kernel
theorem dd_M_makeRuns_59 : decode b_M_makeRuns 59 = .ok (.if_icmp .ge 64, 3) := by decide +kernel
theorem dd_M_makeRuns_62 : decode b_M_makeRuns 62 = .ok (.aload_n 0, 1) := by decide +kernel
theorem dd_M_makeRuns_63 : decode b_M_makeRuns 63 = .ok (.getfield 51, 3) := by decide +kernel
theorem dd_M_makeRuns_66 : decode b_M_makeRuns 66 = .ok (.iload 6, 2) := by decide +kernel
theorem dd_M_makeRuns_68 : decode b_M_makeRuns 68 = .ok (.iaload, 1) := by decide +kernel
theorem dd_M_makeRuns_69 : decode b_M_makeRuns 69 = .ok (.istore 7, 2) := by decide +kernel
theorem dd_M_makeRuns_71 : decode b_M_makeRuns 71 = .ok (.iload 4, 2) := by decide +kernel
theorem dd_M_makeRuns_73 : decode b_M_makeRuns 73 = .ok (.iconst (-1), 1) := by decide +kernel
theorem dd_M_makeRuns_74 : decode b_M_makeRuns 74 = .ok (.if_icmp .eq 17, 3) := by decide +kernel
theorem dd_M_makeRuns_77 : decode b_M_makeRuns 77 = .ok (.aload_n 0, 1) := by decide +kernel
theorem dd_M_makeRuns_78 : decode b_M_makeRuns 78 = .ok (.iload 7, 2) := by decide +kernel
theorem dd_M_makeRuns_80 : decode b_M_makeRuns 80 = .ok (.iload 4, 2) := by decide +kernel
theorem dd_M_makeRuns_82 : decode b_M_makeRuns 82 = .ok (.invokevirtual 197, 3) := by decide +kernel
theorem dd_M_makeRuns_85 : decode b_M_makeRuns 85 = .ok (.ifCond .eq 6, 3) := by decide +kernel
theorem dd_M_makeRuns_88 : decode b_M_makeRuns 88 = .ok (.goto 29, 3) := by decide +kernel
theorem dd_M_makeRuns_91 : decode b_M_makeRuns 91 = .ok (.iload 5, 2) := by decide +kernel
theorem dd_M_makeRuns_93 : decode b_M_makeRuns 93 = .ok (.iconst (-1), 1) := by decide +kernel
theorem dd_M_makeRuns_94 : decode b_M_makeRuns 94 = .ok (.if_icmp .eq 19, 3) := by decide +kernel
theorem dd_M_makeRuns_97 : decode b_M_makeRuns 97 = .ok (.aload_n 0, 1) := by decide +kernel
theorem dd_M_makeRuns_98 : decode b_M_makeRuns 98 = .ok (.iload 7, 2) := by decide +kernel
theorem dd_M_makeRuns_100 : decode b_M_makeRuns 100 = .ok (.aload_n 0, 1) := by decide +kernel
theorem dd_M_makeRuns_101 : decode b_M_makeRuns 101 = .ok (.getfield 51, 3) := by decide +kernel
theorem dd_M_makeRuns_104 : decode b_M_makeRuns 104 = .ok (.iload 5, 2) := by decide +kernel
theorem dd_M_makeRuns_106 : decode b_M_makeRuns 106 = .ok (.iaload, 1) := by decide +kernel
theorem dd_M_makeRuns_107 : decode b_M_makeRuns 107 = .ok (.invokevirtual 197, 3) := by decide +kernel
theorem dd_M_makeRuns_110 : decode b_M_makeRuns 110 = .ok (.ifCond .eq 7, 3) := by decide +kernel
theorem dd_M_makeRuns_113 : decode b_M_makeRuns 113 = .ok (.iload 6, 2) := by decide +kernel
theorem dd_M_makeRuns_115 : decode b_M_makeRuns 115 = .ok (.istore 5, 2) := by decide +kernel
theorem dd_M_makeRuns_117 : decode b_M_makeRuns 117 = .ok (.iinc 6 1, 3) := by decide +kernel
theorem dd_M_makeRuns_120 : decode b_M_makeRuns 120 = .ok (.goto (-64), 3) := by decide +kernel
theorem dd_M_makeRuns_123 : decode b_M_makeRuns 123 = .ok (.iload 5, 2) := by decide +kernel
theorem dd_M_makeRuns_125 : decode b_M_makeRuns 125 = .ok (.iconst (-1), 1) := by decide +kernel
theorem dd_M_makeRuns_126 : decode b_M_makeRuns 126 = .ok (.if_icmp .ne 9, 3) := by decide +kernel
theorem dd_M_makeRuns_129 : decode b_M_makeRuns 129 = .ok (.iconst (-1), 1) := by decide +kernel
theorem dd_M_makeRuns_130 : decode b_M_makeRuns 130 = .ok (.istore 4, 2) := by decide +kernel
theorem dd_M_makeRuns_132 : decode b_M_makeRuns 132 = .ok (.goto (-86), 3) := by decide +kernel
theorem dd_M_makeRuns_135 : decode b_M_makeRuns 135 = .ok (.iload 4, 2) := by decide +kernel
theorem dd_M_makeRuns_137 : decode b_M_makeRuns 137 = .ok (.iconst (-1), 1) := by decide +kernel
theorem dd_M_makeRuns_138 : decode b_M_makeRuns 138 = .ok (.if_icmp .ne 23, 3) := by decide +kernel
theorem dd_M_makeRuns_141 : decode b_M_makeRuns 141 = .ok (.aload_n 0, 1) := by decide +kernel
theorem dd_M_makeRuns_142 : decode b_M_makeRuns 142 = .ok (.getfield 42, 3) := by decide +kernel
theorem dd_M_makeRuns_145 : decode b_M_makeRuns 145 = .ok (.aload_n 0, 1) := by decide +kernel
theorem dd_M_makeRuns_146 : decode b_M_makeRuns 146 = .ok (.getfield 194, 3) := by decide +kernel
theorem dd_M_makeRuns_149 : decode b_M_makeRuns 149 = .ok (.iconst 0, 1) := by decide +kernel
theorem dd_M_makeRuns_150 : decode b_M_makeRuns 150 = .ok (.iastore, 1) := by decide +kernel
theorem dd_M_makeRuns_151 : decode b_M_makeRuns 151 = .ok (.aload_n 0, 1) := by decide +kernel
theorem dd_M_makeRuns_152 : decode b_M_makeRuns 152 = .ok (.dup, 1) := by decide +kernel
theorem dd_M_makeRuns_153 : decode b_M_makeRuns 153 = .ok (.getfield 194, 3) := by decide +kernel
theorem dd_M_makeRuns_156 : decode b_M_makeRuns 156 = .ok (.iconst 1, 1) := by decide +kernel
theorem dd_M_makeRuns_157 : decode b_M_makeRuns 157 = .ok (.iadd, 1) := by decide +kernel
theorem dd_M_makeRuns_158 : decode b_M_makeRuns 158 = .ok (.putfield 194, 3) := by decide +kernel
theorem dd_M_makeRuns_161 : decode b_M_makeRuns 161 = .ok (.aload_n 0, 1) := by decide +kernel
theorem dd_M_makeRuns_162 : decode b_M_makeRuns 162 = .ok (.getfield 51, 3) := by decide +kernel
theorem dd_M_makeRuns_165 : decode b_M_makeRuns 165 = .ok (.iload 5, 2) := by decide +kernel
theorem dd_M_makeRuns_167 : decode b_M_makeRuns 167 = .ok (.iaload, 1) := by decide +kernel
theorem dd_M_makeRuns_168 : decode b_M_makeRuns 168 = .ok (.istore 4, 2) := by decide +kernel
theorem dd_M_makeRuns_170 : decode b_M_makeRuns 170 = .ok (.aload_n 0, 1) := by decide +kernel
theorem dd_M_makeRuns_171 : decode b_M_makeRuns 171 = .ok (.getfield 39, 3) := by decide +kernel
theorem dd_M_makeRuns_174 : decode b_M_makeRuns 174 = .ok (.iload_n 3, 1) := by decide +kernel
theorem dd_M_makeRuns_175 : decode b_M_makeRuns 175 = .ok (.iload 4, 2) := by decide +kernel
theorem dd_M_makeRuns_177 : decode b_M_makeRuns 177 = .ok (.iastore, 1) := by decide +kernel
theorem dd_M_makeRuns_178 : decode b_M_makeRuns 178 = .ok (.iinc 3 1, 3) := by decide +kernel
theorem dd_M_makeRuns_181 : decode b_M_makeRuns 181 = .ok (.aload_n 0, 1) := by decide +kernel
theorem dd_M_makeRuns_182 : decode b_M_makeRuns 182 = .ok (.getfield 42, 3) := by decide +kernel
theorem dd_M_makeRuns_185 : decode b_M_makeRuns 185 = .ok (.aload_n 0, 1) := by decide +kernel
theorem dd_M_makeRuns_186 : decode b_M_makeRuns 186 = .ok (.getfield 194, 3) := by decide +kernel
theorem dd_M_makeRuns_189 : decode b_M_makeRuns 189 = .ok (.iconst 1, 1) := by decide +kernel
theorem dd_M_makeRuns_190 : decode b_M_makeRuns 190 = .ok (.isub, 1) := by decide +kernel
theorem dd_M_makeRuns_191 : decode b_M_makeRuns 191 = .ok (.dup2, 1) := by decide +kernel
theorem dd_M_makeRuns_192 : decode b_M_makeRuns 192 = .ok (.iaload, 1) := by decide +kernel
theorem dd_M_makeRuns_193 : decode b_M_makeRuns 193 = .ok (.iconst 1, 1) := by decide +kernel
theorem dd_M_makeRuns_194 : decode b_M_makeRuns 194 = .ok (.iadd, 1) := by decide +kernel
theorem dd_M_makeRuns_195 : decode b_M_makeRuns 195 = .ok (.iastore, 1) := by decide +kernel
theorem dd_M_makeRuns_196 : decode b_M_makeRuns 196 = .ok (.iload_n 1, 1) := by decide +kernel
theorem dd_M_makeRuns_197 : decode b_M_makeRuns 197 = .ok (.aload_n 0, 1) := by decide +kernel
theorem dd_M_makeRuns_198 : decode b_M_makeRuns 198 = .ok (.getfield 78, 3) := by decide +kernel
theorem dd_M_makeRuns_201 : decode b_M_makeRuns 201 = .ok (.if_icmp .ge 17, 3) := by decide +kernel
theorem dd_M_makeRuns_204 : decode b_M_makeRuns 204 = .ok (.aload_n 0, 1) := by decide +kernel
theorem dd_M_makeRuns_205 : decode b_M_makeRuns 205 = .ok (.getfield 51, 3) := by decide +kernel
theorem dd_M_makeRuns_208 : decode b_M_makeRuns 208 = .ok (.iload 5, 2) := by decide +kernel
theorem dd_M_makeRuns_210 : decode b_M_makeRuns 210 = .ok (.iload_n 1, 1) := by decide +kernel
theorem dd_M_makeRuns_211 : decode b_M_makeRuns 211 = .ok (.iastore, 1) := by decide +kernel
theorem dd_M_makeRuns_212 : decode b_M_makeRuns 212 = .ok (.iinc 1 1, 3) := by decide +kernel
theorem dd_M_makeRuns_215 : decode b_M_makeRuns 215 = .ok (.goto 19, 3) := by decide +kernel
theorem dd_M_makeRuns_218 : decode b_M_makeRuns 218 = .ok (.iinc 2 (-1), 3) := by decide +kernel
theorem dd_M_makeRuns_221 : decode b_M_makeRuns 221 = .ok (.aload_n 0, 1) := by decide +kernel
theorem dd_M_makeRuns_222 : decode b_M_makeRuns 222 = .ok (.getfield 51, 3) := by decide +kernel
theorem dd_M_makeRuns_225 : decode b_M_makeRuns 225 = .ok (.iload 5, 2) := by decide +kernel
theorem dd_M_makeRuns_227 : decode b_M_makeRuns 227 = .ok (.aload_n 0, 1) := by decide +kernel
theorem dd_M_makeRuns_228 : decode b_M_makeRuns 228 = .ok (.getfield 51, 3) := by decide +kernel
theorem dd_M_makeRuns_231 : decode b_M_makeRuns 231 = .ok (.iload_n 2, 1) := by decide +kernel
theorem dd_M_makeRuns_232 : decode b_M_makeRuns 232 = .ok (.iaload, 1) := by decide +kernel
theorem dd_M_makeRuns_233 : decode b_M_makeRuns 233 = .ok (.iastore, 1) := by decide +kernel
theorem dd_M_makeRuns_234 : decode b_M_makeRuns 234 = .ok (.goto (-188), 3) := by decide +kernel
theorem dd_M_makeRuns_237 : decode b_M_makeRuns 237 = .ok (.return_, 1) := by decide +kernel
end
section
theorem dd_M_mergeFirst_0 : decode b_M_mergeFirst 0 = .ok (.aload_n 0, 1) := by decide +kernel
theorem dd_M_mergeFirst_1 : decode b_M_mergeFirst 1 = .ok (.getfield 27, 3) := by decide +kernel
theorem dd_M_mergeFirst_4 : decode b_M_mergeFirst 4 = .ok (.aload_n 0, 1) := by decide +kernel
theorem dd_M_mergeFirst_5 : decode b_M_mergeFirst 5 = .ok (.getfield 194, 3) := by decide +kernel
theorem dd_M_mergeFirst_8 : decode b_M_mergeFirst 8 = .ok (.if_icmp .ge 10, 3) := by decide +kernel
theorem dd_M_mergeFirst_11 : decode b_M_mergeFirst 11 = .ok (.aload_n 0, 1) := by decide +kernel
theorem dd_M_mergeFirst_12 : decode b_M_mergeFirst 12 = .ok (.getfield 27, 3) := by decide +kernel
theorem dd_M_mergeFirst_15 : decode b_M_mergeFirst 15 = .ok (.goto 7, 3) := by decide +kernel
theorem dd_M_mergeFirst_18 : decode b_M_mergeFirst 18 = .ok (.aload_n 0, 1) := by decide +kernel
theorem dd_M_mergeFirst_19 : decode b_M_mergeFirst 19 = .ok (.getfield 194, 3) := by decide +kernel
theorem dd_M_mergeFirst_22 : decode b_M_mergeFirst 22 = .ok (.istore_n 1, 1) := by decide +kernel
theorem dd_M_mergeFirst_23 : decode b_M_mergeFirst 23 = .ok (.iconst 0, 1) := by decide +kernel
theorem dd_M_mergeFirst_24 : decode b_M_mergeFirst 24 = .ok (.istore_n 2, 1) := by decide +kernel
theorem dd_M_mergeFirst_25 : decode b_M_mergeFirst 25 = .ok (.iconst 0, 1) := by decide +kernel
theorem dd_M_mergeFirst_26 : decode b_M_mergeFirst 26 = .ok (.istore_n 3, 1) := by decide +kernel
theorem dd_M_mergeFirst_27 : decode b_M_mergeFirst 27 = .ok (.iload_n 3, 1) := by decide +kernel
theorem dd_M_mergeFirst_28 : decode b_M_mergeFirst 28 = .ok (.iload_n 1, 1) := by decide +kernel
theorem dd_M_mergeFirst_29 : decode b_M_mergeFirst 29 = .ok (.if_icmp .ge 18, 3) := by decide +kernel
theorem dd_M_mergeFirst_32 : decode b_M_mergeFirst 32 = .ok (.iload_n 2, 1) := by decide +kernel
theorem dd_M_mergeFirst_33 : decode b_M_mergeFirst 33 = .ok (.aload_n 0, 1) := by decide +kernel
theorem dd_M_mergeFirst_34 : decode b_M_mergeFirst 34 = .ok (.getfield 42, 3) := by decide +kernel
theorem dd_M_mergeFirst_37 : decode b_M_mergeFirst 37 = .ok (.iload_n 3, 1) := by decide +kernel
theorem dd_M_mergeFirst_38 : decode b_M_mergeFirst 38 = .ok (.iaload, 1) := by decide +kernel
theorem dd_M_mergeFirst_39 : decode b_M_mergeFirst 39 = .ok (.iadd, 1) := by decide +kernel
theorem dd_M_mergeFirst_40 : decode b_M_mergeFirst 40 = .ok (.istore_n 2, 1) := by decide +kernel
theorem dd_M_mergeFirst_41 : decode b_M_mergeFirst 41 = .ok (.iinc 3 1, 3) := by decide +kernel
theorem dd_M_mergeFirst_44 : decode b_M_mergeFirst 44 = .ok (.goto (-17), 3) := by decide +kernel
theorem dd_M_mergeFirst_47 : decode b_M_mergeFirst 47 = .ok (.aload_n 0, 1) := by decide +kernel
theorem dd_M_mergeFirst_48 : decode b_M_mergeFirst 48 = .ok (.getfield 78, 3) := by decide +kernel
theorem dd_M_mergeFirst_51 : decode b_M_mergeFirst 51 = .ok (.iload_n 2, 1) := by decide +kernel
theorem dd_M_mergeFirst_52 : decode b_M_mergeFirst 52 = .ok (.isub, 1) := by decide +kernel
theorem dd_M_mergeFirst_53 : decode b_M_mergeFirst 53 = .ok (.istore_n 3, 1) := by decide +kernel
theorem dd_M_mergeFirst_54 : decode b_M_mergeFirst 54 = .ok (.iconst 0, 1) := by decide +kernel
theorem dd_M_mergeFirst_55 : decode b_M_mergeFirst 55 = .ok (.istore 4, 2) := by decide +kernel
theorem dd_M_mergeFirst_57 : decode b_M_mergeFirst 57 = .ok (.iload 4, 2) := by decide +kernel
theorem dd_M_mergeFirst_59 : decode b_M_mergeFirst 59 = .ok (.iload_n 3, 1) := by decide +kernel
theorem dd_M_mergeFirst_60 : decode b_M_mergeFirst 60 = .ok (.if_icmp .ge 25, 3) := by decide +kernel
theorem dd_M_mergeFirst_63 : decode b_M_mergeFirst 63 = .ok (.aload_n 0, 1) := by decide +kernel
theorem dd_M_mergeFirst_64 : decode b_M_mergeFirst 64 = .ok (.getfield 45, 3) := by decide +kernel
theorem dd_M_mergeFirst_67 : decode b_M_mergeFirst 67 = .ok (.iload 4, 2) := by decide +kernel
theorem dd_M_mergeFirst_69 : decode b_M_mergeFirst 69 = .ok (.aload_n 0, 1) := by decide +kernel
theorem dd_M_mergeFirst_70 : decode b_M_mergeFirst 70 = .ok (.getfield 39, 3) := by decide +kernel
theorem dd_M_mergeFirst_73 : decode b_M_mergeFirst 73 = .ok (.iload_n 2, 1) := by decide +kernel
theorem dd_M_mergeFirst_74 : decode b_M_mergeFirst 74 = .ok (.iload 4, 2) := by decide +kernel
theorem dd_M_mergeFirst_76 : decode b_M_mergeFirst 76 = .ok (.iadd, 1) := by decide +kernel
theorem dd_M_mergeFirst_77 : decode b_M_mergeFirst 77 = .ok (.iaload, 1) := by decide +kernel
theorem dd_M_mergeFirst_78 : decode b_M_mergeFirst 78 = .ok (.iastore, 1) := by decide +kernel
theorem dd_M_mergeFirst_79 : decode b_M_mergeFirst 79 = .ok (.iinc 4 1, 3) := by decide +kernel
theorem dd_M_mergeFirst_82 : decode b_M_mergeFirst 82 = .ok (.goto (-25), 3) := by decide +kernel
theorem dd_M_mergeFirst_85 : decode b_M_mergeFirst 85 = .ok (.iconst 0, 1) := by decide +kernel
theorem dd_M_mergeFirst_86 : decode b_M_mergeFirst 86 = .ok (.istore 4, 2) := by decide +kernel
theorem dd_M_mergeFirst_88 : decode b_M_mergeFirst 88 = .ok (.iload 4, 2) := by decide +kernel
theorem dd_M_mergeFirst_90 : decode b_M_mergeFirst 90 = .ok (.iload_n 2, 1) := by decide +kernel
theorem dd_M_mergeFirst_91 : decode b_M_mergeFirst 91 = .ok (.if_icmp .ge 137, 3) := by decide +kernel
theorem dd_M_mergeFirst_94 : decode b_M_mergeFirst 94 = .ok (.iconst (-1), 1) := by decide +kernel
theorem dd_M_mergeFirst_95 : decode b_M_mergeFirst 95 = .ok (.istore 5, 2) := by decide +kernel
theorem dd_M_mergeFirst_97 : decode b_M_mergeFirst 97 = .ok (.iconst 0, 1) := by decide +kernel
theorem dd_M_mergeFirst_98 : decode b_M_mergeFirst 98 = .ok (.istore 6, 2) := by decide +kernel
theorem dd_M_mergeFirst_100 : decode b_M_mergeFirst 100 = .ok (.iconst 0, 1) := by decide +kernel
theorem dd_M_mergeFirst_101 : decode b_M_mergeFirst 101 = .ok (.istore 7, 2) := by decide +kernel
theorem dd_M_mergeFirst_103 : decode b_M_mergeFirst 103 = .ok (.iload 7, 2) := by decide +kernel
theorem dd_M_mergeFirst_105 : decode b_M_mergeFirst 105 = .ok (.iload_n 1, 1) := by decide +kernel
theorem dd_M_mergeFirst_106 : decode b_M_mergeFirst 106 = .ok (.if_icmp .ge 85, 3) := by decide +kernel
theorem dd_M_mergeFirst_109 : decode b_M_mergeFirst 109 = .ok (.iload 6, 2) := by decide +kernel
theorem dd_M_mergeFirst_111 : decode b_M_mergeFirst 111 = .ok (.aload_n 0, 1) := by decide +kernel
theorem dd_M_mergeFirst_112 : decode b_M_mergeFirst 112 = .ok (.getfield 54, 3) := by decide +kernel
theorem dd_M_mergeFirst_115 : decode b_M_mergeFirst 115 = .ok (.iload 7, 2) := by decide +kernel
theorem dd_M_mergeFirst_117 : decode b_M_mergeFirst 117 = .ok (.iaload, 1) := by decide +kernel
theorem dd_M_mergeFirst_118 : decode b_M_mergeFirst 118 = .ok (.iadd, 1) := by decide +kernel
theorem dd_M_mergeFirst_119 : decode b_M_mergeFirst 119 = .ok (.istore 8, 2) := by decide +kernel
theorem dd_M_mergeFirst_121 : decode b_M_mergeFirst 121 = .ok (.aload_n 0, 1) := by decide +kernel
theorem dd_M_mergeFirst_122 : decode b_M_mergeFirst 122 = .ok (.getfield 54, 3) := by decide +kernel
theorem dd_M_mergeFirst_125 : decode b_M_mergeFirst 125 = .ok (.iload 7, 2) := by decide +kernel
theorem dd_M_mergeFirst_127 : decode b_M_mergeFirst 127 = .ok (.iaload, 1) := by decide +kernel
theorem dd_M_mergeFirst_128 : decode b_M_mergeFirst 128 = .ok (.aload_n 0, 1) := by decide +kernel
theorem dd_M_mergeFirst_129 : decode b_M_mergeFirst 129 = .ok (.getfield 42, 3) := by decide +kernel
theorem dd_M_mergeFirst_132 : decode b_M_mergeFirst 132 = .ok (.iload 7, 2) := by decide +kernel
theorem dd_M_mergeFirst_134 : decode b_M_mergeFirst 134 = .ok (.iaload, 1) := by decide +kernel
theorem dd_M_mergeFirst_135 : decode b_M_mergeFirst 135 = .ok (.if_icmp .ge 38, 3) := by decide +kernel
theorem dd_M_mergeFirst_138 : decode b_M_mergeFirst 138 = .ok (.iload 5, 2) := by decide +kernel
theorem dd_M_mergeFirst_140 : decode b_M_mergeFirst 140 = .ok (.iconst (-1), 1) := by decide +kernel
theorem dd_M_mergeFirst_141 : decode b_M_mergeFirst 141 = .ok (.if_icmp .eq 28, 3) := by decide +kernel
theorem dd_M_mergeFirst_144 : decode b_M_mergeFirst 144 = .ok (.aload_n 0, 1) := by decide +kernel
theorem dd_M_mergeFirst_145 : decode b_M_mergeFirst 145 = .ok (.aload_n 0, 1) := by decide +kernel
theorem dd_M_mergeFirst_146 : decode b_M_mergeFirst 146 = .ok (.getfield 39, 3) := by decide +kernel
theorem dd_M_mergeFirst_149 : decode b_M_mergeFirst 149 = .ok (.iload 8, 2) := by decide +kernel
theorem dd_M_mergeFirst_151 : decode b_M_mergeFirst 151 = .ok (.iaload, 1) := by decide +kernel
theorem dd_M_mergeFirst_152 : decode b_M_mergeFirst 152 = .ok (.aload_n 0, 1) := by decide +kernel
theorem dd_M_mergeFirst_153 : decode b_M_mergeFirst 153 = .ok (.getfield 39, 3) := by decide +kernel
theorem dd_M_mergeFirst_156 : decode b_M_mergeFirst 156 = .ok (.aload_n 0, 1) := by decide +kernel
theorem dd_M_mergeFirst_157 : decode b_M_mergeFirst 157 = .ok (.iload 5, 2) := by decide +kernel
theorem dd_M_mergeFirst_159 : decode b_M_mergeFirst 159 = .ok (.invokevirtual 200, 3) := by decide +kernel
theorem dd_M_mergeFirst_162 : decode b_M_mergeFirst 162 = .ok (.iaload, 1) := by decide +kernel
theorem dd_M_mergeFirst_163 : decode b_M_mergeFirst 163 = .ok (.invokevirtual 197, 3) := by decide +kernel
theorem dd_M_mergeFirst_166 : decode b_M_mergeFirst 166 = .ok (.ifCond .eq 7, 3) := by decide +kernel
theorem dd_M_mergeFirst_169 : decode b_M_mergeFirst 169 = .ok (.iload 7, 2) := by decide +kernel
theorem dd_M_mergeFirst_171 : decode b_M_mergeFirst 171 = .ok (.istore 5, 2) := by decide +kernel
theorem dd_M_mergeFirst_173 : decode b_M_mergeFirst 173 = .ok (.iload 6, 2) := by decide +kernel
theorem dd_M_mergeFirst_175 : decode b_M_mergeFirst 175 = .ok (.aload_n 0, 1) := by decide +kernel
theorem dd_M_mergeFirst_176 : decode b_M_mergeFirst 176 = .ok (.getfield 42, 3) := by decide +kernel
theorem dd_M_mergeFirst_179 : decode b_M_mergeFirst 179 = .ok (.iload 7, 2) := by decide +kernel
theorem dd_M_mergeFirst_181 : decode b_M_mergeFirst 181 = .ok (.iaload, 1) := by decide +kernel
theorem dd_M_mergeFirst_182 : decode b_M_mergeFirst 182 = .ok (.iadd, 1) := by decide +kernel
theorem dd_M_mergeFirst_183 : decode b_M_mergeFirst 183 = .ok (.istore 6, 2) := by decide +kernel
theorem dd_M_mergeFirst_185 : decode b_M_mergeFirst 185 = .ok (.iinc 7 1, 3) := by decide +kernel
theorem dd_M_mergeFirst_188 : decode b_M_mergeFirst 188 = .ok (.goto (-85), 3) := by decide +kernel
theorem dd_M_mergeFirst_191 : decode b_M_mergeFirst 191 = .ok (.aload_n 0, 1) := by decide +kernel
theorem dd_M_mergeFirst_192 : decode b_M_mergeFirst 192 = .ok (.getfield 45, 3) := by decide +kernel
theorem dd_M_mergeFirst_195 : decode b_M_mergeFirst 195 = .ok (.iload_n 3, 1) := by decide +kernel
theorem dd_M_mergeFirst_196 : decode b_M_mergeFirst 196 = .ok (.iload 4, 2) := by decide +kernel
theorem dd_M_mergeFirst_198 : decode b_M_mergeFirst 198 = .ok (.iadd, 1) := by decide +kernel
theorem dd_M_mergeFirst_199 : decode b_M_mergeFirst 199 = .ok (.aload_n 0, 1) := by decide +kernel
theorem dd_M_mergeFirst_200 : decode b_M_mergeFirst 200 = .ok (.getfield 39, 3) := by decide +kernel
theorem dd_M_mergeFirst_203 : decode b_M_mergeFirst 203 = .ok (.aload_n 0, 1) := by decide +kernel
theorem dd_M_mergeFirst_204 : decode b_M_mergeFirst 204 = .ok (.iload 5, 2) := by decide +kernel
theorem dd_M_mergeFirst_206 : decode b_M_mergeFirst 206 = .ok (.invokevirtual 200, 3) := by decide +kernel
theorem dd_M_mergeFirst_209 : decode b_M_mergeFirst 209 = .ok (.iaload, 1) := by decide +kernel
theorem dd_M_mergeFirst_210 : decode b_M_mergeFirst 210 = .ok (.iastore, 1) := by decide +kernel
theorem dd_M_mergeFirst_211 : decode b_M_mergeFirst 211 = .ok (.aload_n 0, 1) := by decide +kernel
theorem dd_M_mergeFirst_212 : decode b_M_mergeFirst 212 = .ok (.getfield 54, 3) := by decide +kernel
theorem dd_M_mergeFirst_215 : decode b_M_mergeFirst 215 = .ok (.iload 5, 2) := by decide +kernel
theorem dd_M_mergeFirst_217 : decode b_M_mergeFirst 217 = .ok (.dup2, 1) := by decide +kernel
theorem dd_M_mergeFirst_218 : decode b_M_mergeFirst 218 = .ok (.iaload, 1) := by decide +kernel
theorem dd_M_mergeFirst_219 : decode b_M_mergeFirst 219 = .ok (.iconst 1, 1) := by decide +kernel
theorem dd_M_mergeFirst_220 : decode b_M_mergeFirst 220 = .ok (.iadd, 1) := by decide +kernel
theorem dd_M_mergeFirst_221 : decode b_M_mergeFirst 221 = .ok (.iastore, 1) := by decide +kernel
theorem dd_M_mergeFirst_222 : decode b_M_mergeFirst 222 = .ok (.iinc 4 1, 3) := by decide +kernel
theorem dd_M_mergeFirst_225 : decode b_M_mergeFirst 225 = .ok (.goto (-137), 3) := by decide +kernel
theorem dd_M_mergeFirst_228 : decode b_M_mergeFirst 228 = .ok (.iconst 0, 1) := by decide +kernel
theorem dd_M_mergeFirst_229 : decode b_M_mergeFirst 229 = .ok (.istore 5, 2) := by decide +kernel
theorem dd_M_mergeFirst_231 : decode b_M_mergeFirst 231 = .ok (.iload 5, 2) := by decide +kernel
theorem dd_M_mergeFirst_233 : decode b_M_mergeFirst 233 = .ok (.iload_n 1, 1) := by decide +kernel
theorem dd_M_mergeFirst_234 : decode b_M_mergeFirst 234 = .ok (.if_icmp .ge 17, 3) := by decide +kernel
theorem dd_M_mergeFirst_237 : decode b_M_mergeFirst 237 = .ok (.aload_n 0, 1) := by decide +kernel
theorem dd_M_mergeFirst_238 : decode b_M_mergeFirst 238 = .ok (.getfield 54, 3) := by decide +kernel
theorem dd_M_mergeFirst_241 : decode b_M_mergeFirst 241 = .ok (.iload 5, 2) := by decide +kernel
theorem dd_M_mergeFirst_243 : decode b_M_mergeFirst 243 = .ok (.iconst 0, 1) := by decide +kernel
theorem dd_M_mergeFirst_244 : decode b_M_mergeFirst 244 = .ok (.iastore, 1) := by decide +kernel
theorem dd_M_mergeFirst_245 : decode b_M_mergeFirst 245 = .ok (.iinc 5 1, 3) := by decide +kernel
theorem dd_M_mergeFirst_248 : decode b_M_mergeFirst 248 = .ok (.goto (-17), 3) := by decide +kernel
theorem dd_M_mergeFirst_251 : decode b_M_mergeFirst 251 = .ok (.iconst 0, 1) := by decide +kernel
theorem dd_M_mergeFirst_252 : decode b_M_mergeFirst 252 = .ok (.istore 5, 2) := by decide +kernel
theorem dd_M_mergeFirst_254 : decode b_M_mergeFirst 254 = .ok (.iload 5, 2) := by decide +kernel
theorem dd_M_mergeFirst_256 : decode b_M_mergeFirst 256 = .ok (.aload_n 0, 1) := by decide +kernel
theorem dd_M_mergeFirst_257 : decode b_M_mergeFirst 257 = .ok (.getfield 78, 3) := by decide +kernel
theorem dd_M_mergeFirst_260 : decode b_M_mergeFirst 260 = .ok (.if_icmp .ge 23, 3) := by decide +kernel
theorem dd_M_mergeFirst_263 : decode b_M_mergeFirst 263 = .ok (.aload_n 0, 1) := by decide +kernel
theorem dd_M_mergeFirst_264 : decode b_M_mergeFirst 264 = .ok (.getfield 39, 3) := by decide +kernel
theorem dd_M_mergeFirst_267 : decode b_M_mergeFirst 267 = .ok (.iload 5, 2) := by decide +kernel
theorem dd_M_mergeFirst_269 : decode b_M_mergeFirst 269 = .ok (.aload_n 0, 1) := by decide +kernel
theorem dd_M_mergeFirst_270 : decode b_M_mergeFirst 270 = .ok (.getfield 45, 3) := by decide +kernel
theorem dd_M_mergeFirst_273 : decode b_M_mergeFirst 273 = .ok (.iload 5, 2) := by decide +kernel
theorem dd_M_mergeFirst_275 : decode b_M_mergeFirst 275 = .ok (.iaload, 1) := by decide +kernel
theorem dd_M_mergeFirst_276 : decode b_M_mergeFirst 276 = .ok (.iastore, 1) := by decide +kernel
theorem dd_M_mergeFirst_277 : decode b_M_mergeFirst 277 = .ok (.iinc 5 1, 3) := by decide +kernel
theorem dd_M_mergeFirst_280 : decode b_M_mergeFirst 280 = .ok (.goto (-26), 3) := by decide +kernel
theorem dd_M_mergeFirst_283 : decode b_M_mergeFirst 283 = .ok (.iload_n 1, 1) := by decide +kernel
theorem dd_M_mergeFirst_284 : decode b_M_mergeFirst 284 = .ok (.istore 5, 2) := by decide +kernel
theorem dd_M_mergeFirst_286 : decode b_M_mergeFirst 286 = .ok (.iload 5, 2) := by decide +kernel
theorem dd_M_mergeFirst_288 : decode b_M_mergeFirst 288 = .ok (.aload_n 0, 1) := by decide +kernel
theorem dd_M_mergeFirst_289 : decode b_M_mergeFirst 289 = .ok (.getfield 194, 3) := by decide +kernel
theorem dd_M_mergeFirst_292 : decode b_M_mergeFirst 292 = .ok (.if_icmp .ge 25, 3) := by decide +kernel
theorem dd_M_mergeFirst_295 : decode b_M_mergeFirst 295 = .ok (.aload_n 0, 1) := by decide +kernel
theorem dd_M_mergeFirst_296 : decode b_M_mergeFirst 296 = .ok (.getfield 42, 3) := by decide +kernel
theorem dd_M_mergeFirst_299 : decode b_M_mergeFirst 299 = .ok (.iload 5, 2) := by decide +kernel
theorem dd_M_mergeFirst_301 : decode b_M_mergeFirst 301 = .ok (.iload_n 1, 1) := by decide +kernel
theorem dd_M_mergeFirst_302 : decode b_M_mergeFirst 302 = .ok (.isub, 1) := by decide +kernel
theorem dd_M_mergeFirst_303 : decode b_M_mergeFirst 303 = .ok (.aload_n 0, 1) := by decide +kernel
theorem dd_M_mergeFirst_304 : decode b_M_mergeFirst 304 = .ok (.getfield 42, 3) := by decide +kernel
theorem dd_M_mergeFirst_307 : decode b_M_mergeFirst 307 = .ok (.iload 5, 2) := by decide +kernel
theorem dd_M_mergeFirst_309 : decode b_M_mergeFirst 309 = .ok (.iaload, 1) := by decide +kernel
theorem dd_M_mergeFirst_310 : decode b_M_mergeFirst 310 = .ok (.iastore, 1) := by decide +kernel
theorem dd_M_mergeFirst_311 : decode b_M_mergeFirst 311 = .ok (.iinc 5 1, 3) := by decide +kernel
theorem dd_M_mergeFirst_314 : decode b_M_mergeFirst 314 = .ok (.goto (-28), 3) := by decide +kernel
theorem dd_M_mergeFirst_317 : decode b_M_mergeFirst 317 = .ok (.aload_n 0, 1) := by decide +kernel
theorem dd_M_mergeFirst_318 : decode b_M_mergeFirst 318 = .ok (.dup, 1) := by decide +kernel
theorem dd_M_mergeFirst_319 : decode b_M_mergeFirst 319 = .ok (.getfield 194, 3) := by decide +kernel
theorem dd_M_mergeFirst_322 : decode b_M_mergeFirst 322 = .ok (.iload_n 1, 1) := by decide +kernel
theorem dd_M_mergeFirst_323 : decode b_M_mergeFirst 323 = .ok (.isub, 1) := by decide +kernel
theorem dd_M_mergeFirst_324 : decode b_M_mergeFirst 324 = .ok (.putfield 194, 3) := by decide +kernel
theorem dd_M_mergeFirst_327 : decode b_M_mergeFirst 327 = .ok (.aload_n 0, 1) := by decide +kernel
theorem dd_M_mergeFirst_328 : decode b_M_mergeFirst 328 = .ok (.getfield 42, 3) := by decide +kernel
theorem dd_M_mergeFirst_331 : decode b_M_mergeFirst 331 = .ok (.aload_n 0, 1) := by decide +kernel
theorem dd_M_mergeFirst_332 : decode b_M_mergeFirst 332 = .ok (.getfield 194, 3) := by decide +kernel
theorem dd_M_mergeFirst_335 : decode b_M_mergeFirst 335 = .ok (.iload_n 2, 1) := by decide +kernel
theorem dd_M_mergeFirst_336 : decode b_M_mergeFirst 336 = .ok (.iastore, 1) := by decide +kernel
theorem dd_M_mergeFirst_337 : decode b_M_mergeFirst 337 = .ok (.aload_n 0, 1) := by decide +kernel
theorem dd_M_mergeFirst_338 : decode b_M_mergeFirst 338 = .ok (.dup, 1) := by decide +kernel
theorem dd_M_mergeFirst_339 : decode b_M_mergeFirst 339 = .ok (.getfield 194, 3) := by decide +kernel
theorem dd_M_mergeFirst_342 : decode b_M_mergeFirst 342 = .ok (.iconst 1, 1) := by decide +kernel
theorem dd_M_mergeFirst_343 : decode b_M_mergeFirst 343 = .ok (.iadd, 1) := by decide +kernel
theorem dd_M_mergeFirst_344 : decode b_M_mergeFirst 344 = .ok (.putfield 194, 3) := by decide +kernel
theorem dd_M_mergeFirst_347 : decode b_M_mergeFirst 347 = .ok (.aload_n 0, 1) := by decide +kernel
theorem dd_M_mergeFirst_348 : decode b_M_mergeFirst 348 = .ok (.dup, 1) := by decide +kernel
theorem dd_M_mergeFirst_349 : decode b_M_mergeFirst 349 = .ok (.getfield 203, 3) := by decide +kernel
theorem dd_M_mergeFirst_352 : decode b_M_mergeFirst 352 = .ok (.iconst 1, 1) := by decide +kernel
theorem dd_M_mergeFirst_353 : decode b_M_mergeFirst 353 = .ok (.iadd, 1) := by decide +kernel
theorem dd_M_mergeFirst_354 : decode b_M_mergeFirst 354 = .ok (.putfield 203, 3) := by decide +kernel
theorem dd_M_mergeFirst_357 : decode b_M_mergeFirst 357 = .ok (.aload_n 0, 1) := by decide +kernel
theorem dd_M_mergeFirst_358 : decode b_M_mergeFirst 358 = .ok (.dup, 1) := by decide +kernel
theorem dd_M_mergeFirst_359 : decode b_M_mergeFirst 359 = .ok (.getfield 206, 3) := by decide +kernel
theorem dd_M_mergeFirst_362 : decode b_M_mergeFirst 362 = .ok (.iload_n 2, 1) := by decide +kernel
theorem dd_M_mergeFirst_363 : decode b_M_mergeFirst 363 = .ok (.iadd, 1) := by decide +kernel
theorem dd_M_mergeFirst_364 : decode b_M_mergeFirst 364 = .ok (.putfield 206, 3) := by decide +kernel
theorem dd_M_mergeFirst_367 : decode b_M_mergeFirst 367 = .ok (.return_, 1) := by decide +kernel
theorem dd_M_headOf_0 : decode b_M_headOf 0 = .ok (.iconst 0, 1) := by decide +kernel
theorem dd_M_headOf_1 : decode b_M_headOf 1 = .ok (.istore_n 2, 1) := by decide +kernel
theorem dd_M_headOf_2 : decode b_M_headOf 2 = .ok (.iconst 0, 1) := by decide +kernel
theorem dd_M_headOf_3 : decode b_M_headOf 3 = .ok (.istore_n 3, 1) := by decide +kernel
theorem dd_M_headOf_4 : decode b_M_headOf 4 = .ok (.iload_n 3, 1) := by decide +kernel
theorem dd_M_headOf_5 : decode b_M_headOf 5 = .ok (.iload_n 1, 1) := by decide +kernel
theorem dd_M_headOf_6 : decode b_M_headOf 6 = .ok (.if_icmp .ge 18, 3) := by decide +kernel
theorem dd_M_headOf_9 : decode b_M_headOf 9 = .ok (.iload_n 2, 1) := by decide +kernel
theorem dd_M_headOf_10 : decode b_M_headOf 10 = .ok (.aload_n 0, 1) := by decide +kernel
theorem dd_M_headOf_11 : decode b_M_headOf 11 = .ok (.getfield 42, 3) := by decide +kernel
theorem dd_M_headOf_14 : decode b_M_headOf 14 = .ok (.iload_n 3, 1) := by decide +kernel
theorem dd_M_headOf_15 : decode b_M_headOf 15 = .ok (.iaload, 1) := by decide +kernel
theorem dd_M_headOf_16 : decode b_M_headOf 16 = .ok (.iadd, 1) := by decide +kernel
theorem dd_M_headOf_17 : decode b_M_headOf 17 = .ok (.istore_n 2, 1) := by decide +kernel
theorem dd_M_headOf_18 : decode b_M_headOf 18 = .ok (.iinc 3 1, 3) := by decide +kernel
theorem dd_M_headOf_21 : decode b_M_headOf 21 = .ok (.goto (-17), 3) := by decide +kernel
theorem dd_M_headOf_24 : decode b_M_headOf 24 = .ok (.iload_n 2, 1) := by decide +kernel
theorem dd_M_headOf_25 : decode b_M_headOf 25 = .ok (.aload_n 0, 1) := by decide +kernel
theorem dd_M_headOf_26 : decode b_M_headOf 26 = .ok (.getfield 54, 3) := by decide +kernel
theorem dd_M_headOf_29 : decode b_M_headOf 29 = .ok (.iload_n 1, 1) := by decide +kernel
theorem dd_M_headOf_30 : decode b_M_headOf 30 = .ok (.iaload, 1) := by decide +kernel
theorem dd_M_headOf_31 : decode b_M_headOf 31 = .ok (.iadd, 1) := by decide +kernel
theorem dd_M_headOf_32 : decode b_M_headOf 32 = .ok (.ireturn, 1) := by decide +kernel
theorem dd_M_sort_0 : decode b_M_sort 0 = .ok (.aload_n 0, 1) := by decide +kernel
theorem dd_M_sort_1 : decode b_M_sort 1 = .ok (.invokevirtual 191, 3) := by decide +kernel
theorem dd_M_sort_4 : decode b_M_sort 4 = .ok (.aload_n 0, 1) := by decide +kernel
theorem dd_M_sort_5 : decode b_M_sort 5 = .ok (.aload_n 0, 1) := by decide +kernel
theorem dd_M_sort_6 : decode b_M_sort 6 = .ok (.getfield 78, 3) := by decide +kernel
theorem dd_M_sort_9 : decode b_M_sort 9 = .ok (.sipush 1000, 3) := by decide +kernel
theorem dd_M_sort_12 : decode b_M_sort 12 = .ok (.if_icmp .le 7, 3) := by decide +kernel
theorem dd_M_sort_15 : decode b_M_sort 15 = .ok (.iconst 1, 1) := by decide +kernel
theorem dd_M_sort_16 : decode b_M_sort 16 = .ok (.goto 4, 3) := by decide +kernel
theorem dd_M_sort_19 : decode b_M_sort 19 = .ok (.iconst 0, 1) := by decide +kernel
theorem dd_M_sort_20 : decode b_M_sort 20 = .ok (.iconst 1, 1) := by decide +kernel
theorem dd_M_sort_21 : decode b_M_sort 21 = .ok (.invokevirtual 70, 3) := by decide +kernel
theorem dd_M_sort_24 : decode b_M_sort 24 = .ok (.ifCond .eq 5, 3) := by decide +kernel
theorem dd_M_sort_27 : decode b_M_sort 27 = .ok (.iconst 0, 1) := by decide +kernel
theorem dd_M_sort_28 : decode b_M_sort 28 = .ok (.ireturn, 1) := by decide +kernel
theorem dd_M_sort_29 : decode b_M_sort 29 = .ok (.aload_n 0, 1) := by decide +kernel
theorem dd_M_sort_30 : decode b_M_sort 30 = .ok (.invokevirtual 209, 3) := by decide +kernel
theorem dd_M_sort_33 : decode b_M_sort 33 = .ok (.aload_n 0, 1) := by decide +kernel
theorem dd_M_sort_34 : decode b_M_sort 34 = .ok (.invokevirtual 212, 3) := by decide +kernel
theorem dd_M_sort_37 : decode b_M_sort 37 = .ok (.aload_n 0, 1) := by decide +kernel
theorem dd_M_sort_38 : decode b_M_sort 38 = .ok (.aload_n 0, 1) := by decide +kernel
theorem dd_M_sort_39 : decode b_M_sort 39 = .ok (.getfield 194, 3) := by decide +kernel
theorem dd_M_sort_42 : decode b_M_sort 42 = .ok (.putfield 215, 3) := by decide +kernel
theorem dd_M_sort_45 : decode b_M_sort 45 = .ok (.iconst 0, 1) := by decide +kernel
theorem dd_M_sort_46 : decode b_M_sort 46 = .ok (.istore_n 1, 1) := by decide +kernel
theorem dd_M_sort_47 : decode b_M_sort 47 = .ok (.iload_n 1, 1) := by decide +kernel
theorem dd_M_sort_48 : decode b_M_sort 48 = .ok (.aload_n 0, 1) := by decide +kernel
theorem dd_M_sort_49 : decode b_M_sort 49 = .ok (.getfield 194, 3) := by decide +kernel
theorem dd_M_sort_52 : decode b_M_sort 52 = .ok (.if_icmp .ge 21, 3) := by decide +kernel
theorem dd_M_sort_55 : decode b_M_sort 55 = .ok (.aload_n 0, 1) := by decide +kernel
theorem dd_M_sort_56 : decode b_M_sort 56 = .ok (.getfield 48, 3) := by decide +kernel
theorem dd_M_sort_59 : decode b_M_sort 59 = .ok (.iload_n 1, 1) := by decide +kernel
theorem dd_M_sort_60 : decode b_M_sort 60 = .ok (.aload_n 0, 1) := by decide +kernel
theorem dd_M_sort_61 : decode b_M_sort 61 = .ok (.getfield 42, 3) := by decide +kernel
theorem dd_M_sort_64 : decode b_M_sort 64 = .ok (.iload_n 1, 1) := by decide +kernel
theorem dd_M_sort_65 : decode b_M_sort 65 = .ok (.iaload, 1) := by decide +kernel
theorem dd_M_sort_66 : decode b_M_sort 66 = .ok (.iastore, 1) := by decide +kernel
theorem dd_M_sort_67 : decode b_M_sort 67 = .ok (.iinc 1 1, 3) := by decide +kernel
theorem dd_M_sort_70 : decode b_M_sort 70 = .ok (.goto (-23), 3) := by decide +kernel
theorem dd_M_sort_73 : decode b_M_sort 73 = .ok (.aload_n 0, 1) := by decide +kernel
theorem dd_M_sort_74 : decode b_M_sort 74 = .ok (.iconst 0, 1) := by decide +kernel
theorem dd_M_sort_75 : decode b_M_sort 75 = .ok (.putfield 203, 3) := by decide +kernel
theorem dd_M_sort_78 : decode b_M_sort 78 = .ok (.aload_n 0, 1) := by decide +kernel
theorem dd_M_sort_79 : decode b_M_sort 79 = .ok (.iconst 0, 1) := by decide +kernel
theorem dd_M_sort_80 : decode b_M_sort 80 = .ok (.putfield 206, 3) := by decide +kernel
theorem dd_M_sort_83 : decode b_M_sort 83 = .ok (.aload_n 0, 1) := by decide +kernel
theorem dd_M_sort_84 : decode b_M_sort 84 = .ok (.getfield 194, 3) := by decide +kernel
theorem dd_M_sort_87 : decode b_M_sort 87 = .ok (.iconst 1, 1) := by decide +kernel
theorem dd_M_sort_88 : decode b_M_sort 88 = .ok (.if_icmp .le 10, 3) := by decide +kernel
theorem dd_M_sort_91 : decode b_M_sort 91 = .ok (.aload_n 0, 1) := by decide +kernel
theorem dd_M_sort_92 : decode b_M_sort 92 = .ok (.invokevirtual 218, 3) := by decide +kernel
theorem dd_M_sort_95 : decode b_M_sort 95 = .ok (.goto (-12), 3) := by decide +kernel
theorem dd_M_sort_98 : decode b_M_sort 98 = .ok (.aload_n 0, 1) := by decide +kernel
theorem dd_M_sort_99 : decode b_M_sort 99 = .ok (.iconst 0, 1) := by decide +kernel
theorem dd_M_sort_100 : decode b_M_sort 100 = .ok (.putfield 67, 3) := by decide +kernel
theorem dd_M_sort_103 : decode b_M_sort 103 = .ok (.aload_n 0, 1) := by decide +kernel
theorem dd_M_sort_104 : decode b_M_sort 104 = .ok (.iconst 0, 1) := by decide +kernel
theorem dd_M_sort_105 : decode b_M_sort 105 = .ok (.putfield 221, 3) := by decide +kernel
theorem dd_M_sort_108 : decode b_M_sort 108 = .ok (.iconst 0, 1) := by decide +kernel
theorem dd_M_sort_109 : decode b_M_sort 109 = .ok (.istore_n 1, 1) := by decide +kernel
theorem dd_M_sort_110 : decode b_M_sort 110 = .ok (.iload_n 1, 1) := by decide +kernel
theorem dd_M_sort_111 : decode b_M_sort 111 = .ok (.aload_n 0, 1) := by decide +kernel
theorem dd_M_sort_112 : decode b_M_sort 112 = .ok (.getfield 78, 3) := by decide +kernel
theorem dd_M_sort_115 : decode b_M_sort 115 = .ok (.if_icmp .ge 79, 3) := by decide +kernel
theorem dd_M_sort_118 : decode b_M_sort 118 = .ok (.aload_n 0, 1) := by decide +kernel
theorem dd_M_sort_119 : decode b_M_sort 119 = .ok (.getfield 91, 3) := by decide +kernel
theorem dd_M_sort_122 : decode b_M_sort 122 = .ok (.ifCond .eq 41, 3) := by decide +kernel
theorem dd_M_sort_125 : decode b_M_sort 125 = .ok (.iload_n 1, 1) := by decide +kernel
theorem dd_M_sort_126 : decode b_M_sort 126 = .ok (.ifCond .le 37, 3) := by decide +kernel
theorem dd_M_sort_129 : decode b_M_sort 129 = .ok (.aload_n 0, 1) := by decide +kernel
theorem dd_M_sort_130 : decode b_M_sort 130 = .ok (.aload_n 0, 1) := by decide +kernel
theorem dd_M_sort_131 : decode b_M_sort 131 = .ok (.getfield 39, 3) := by decide +kernel
theorem dd_M_sort_134 : decode b_M_sort 134 = .ok (.iload_n 1, 1) := by decide +kernel
theorem dd_M_sort_135 : decode b_M_sort 135 = .ok (.iconst 1, 1) := by decide +kernel
theorem dd_M_sort_136 : decode b_M_sort 136 = .ok (.isub, 1) := by decide +kernel
theorem dd_M_sort_137 : decode b_M_sort 137 = .ok (.iaload, 1) := by decide +kernel
theorem dd_M_sort_138 : decode b_M_sort 138 = .ok (.aload_n 0, 1) := by decide +kernel
theorem dd_M_sort_139 : decode b_M_sort 139 = .ok (.getfield 39, 3) := by decide +kernel
theorem dd_M_sort_142 : decode b_M_sort 142 = .ok (.iload_n 1, 1) := by decide +kernel
theorem dd_M_sort_143 : decode b_M_sort 143 = .ok (.iaload, 1) := by decide +kernel
theorem dd_M_sort_144 : decode b_M_sort 144 = .ok (.invokevirtual 185, 3) := by decide +kernel
theorem dd_M_sort_147 : decode b_M_sort 147 = .ok (.ifCond .ne 16, 3) := by decide +kernel
theorem dd_M_sort_150 : decode b_M_sort 150 = .ok (.aload_n 0, 1) := by decide +kernel
theorem dd_M_sort_151 : decode b_M_sort 151 = .ok (.dup, 1) := by decide +kernel
theorem dd_M_sort_152 : decode b_M_sort 152 = .ok (.getfield 221, 3) := by decide +kernel
theorem dd_M_sort_155 : decode b_M_sort 155 = .ok (.iconst 1, 1) := by decide +kernel
theorem dd_M_sort_156 : decode b_M_sort 156 = .ok (.iadd, 1) := by decide +kernel
theorem dd_M_sort_157 : decode b_M_sort 157 = .ok (.putfield 221, 3) := by decide +kernel
theorem dd_M_sort_160 : decode b_M_sort 160 = .ok (.goto 28, 3) := by decide +kernel
theorem dd_M_sort_163 : decode b_M_sort 163 = .ok (.aload_n 0, 1) := by decide +kernel
theorem dd_M_sort_164 : decode b_M_sort 164 = .ok (.getfield 36, 3) := by decide +kernel
theorem dd_M_sort_167 : decode b_M_sort 167 = .ok (.aload_n 0, 1) := by decide +kernel
theorem dd_M_sort_168 : decode b_M_sort 168 = .ok (.getfield 67, 3) := by decide +kernel
theorem dd_M_sort_171 : decode b_M_sort 171 = .ok (.aload_n 0, 1) := by decide +kernel
theorem dd_M_sort_172 : decode b_M_sort 172 = .ok (.getfield 39, 3) := by decide +kernel
theorem dd_M_sort_175 : decode b_M_sort 175 = .ok (.iload_n 1, 1) := by decide +kernel
theorem dd_M_sort_176 : decode b_M_sort 176 = .ok (.iaload, 1) := by decide +kernel
theorem dd_M_sort_177 : decode b_M_sort 177 = .ok (.iastore, 1) := by decide +kernel
theorem dd_M_sort_178 : decode b_M_sort 178 = .ok (.aload_n 0, 1) := by decide +kernel
theorem dd_M_sort_179 : decode b_M_sort 179 = .ok (.dup, 1) := by decide +kernel
theorem dd_M_sort_180 : decode b_M_sort 180 = .ok (.getfield 67, 3) := by decide +kernel
theorem dd_M_sort_183 : decode b_M_sort 183 = .ok (.iconst 1, 1) := by decide +kernel
theorem dd_M_sort_184 : decode b_M_sort 184 = .ok (.iadd, 1) := by decide +kernel
theorem dd_M_sort_185 : decode b_M_sort 185 = .ok (.putfield 67, 3) := by decide +kernel
theorem dd_M_sort_188 : decode b_M_sort 188 = .ok (.iinc 1 1, 3) := by decide +kernel
theorem dd_M_sort_191 : decode b_M_sort 191 = .ok (.goto (-81), 3) := by decide +kernel
theorem dd_M_sort_194 : decode b_M_sort 194 = .ok (.aload_n 0, 1) := by decide +kernel
theorem dd_M_sort_195 : decode b_M_sort 195 = .ok (.iconst 0, 1) := by decide +kernel
theorem dd_M_sort_196 : decode b_M_sort 196 = .ok (.putfield 126, 3) := by decide +kernel
theorem dd_M_sort_199 : decode b_M_sort 199 = .ok (.aload_n 0, 1) := by decide +kernel
theorem dd_M_sort_200 : decode b_M_sort 200 = .ok (.getfield 67, 3) := by decide +kernel
theorem dd_M_sort_203 : decode b_M_sort 203 = .ok (.ireturn, 1) := by decide +kernel
theorem dd_M_check_0 : decode b_M_check 0 = .ok (.aload_n 0, 1) := by decide +kernel
theorem dd_M_check_1 : decode b_M_check 1 = .ok (.iconst 0, 1) := by decide +kernel
theorem dd_M_check_2 : decode b_M_check 2 = .ok (.putfield 57, 3) := by decide +kernel
theorem dd_M_check_5 : decode b_M_check 5 = .ok (.aload_n 0, 1) := by decide +kernel
theorem dd_M_check_6 : decode b_M_check 6 = .ok (.invokevirtual 191, 3) := by decide +kernel
theorem dd_M_check_9 : decode b_M_check 9 = .ok (.iconst 1, 1) := by decide +kernel
theorem dd_M_check_10 : decode b_M_check 10 = .ok (.istore_n 1, 1) := by decide +kernel
theorem dd_M_check_11 : decode b_M_check 11 = .ok (.iload_n 1, 1) := by decide +kernel
theorem dd_M_check_12 : decode b_M_check 12 = .ok (.aload_n 0, 1) := by decide +kernel
theorem dd_M_check_13 : decode b_M_check 13 = .ok (.getfield 78, 3) := by decide +kernel
theorem dd_M_check_16 : decode b_M_check 16 = .ok (.if_icmp .ge 35, 3) := by decide +kernel
theorem dd_M_check_19 : decode b_M_check 19 = .ok (.aload_n 0, 1) := by decide +kernel
theorem dd_M_check_20 : decode b_M_check 20 = .ok (.iload_n 1, 1) := by decide +kernel
theorem dd_M_check_21 : decode b_M_check 21 = .ok (.iconst 1, 1) := by decide +kernel
theorem dd_M_check_22 : decode b_M_check 22 = .ok (.isub, 1) := by decide +kernel
theorem dd_M_check_23 : decode b_M_check 23 = .ok (.iload_n 1, 1) := by decide +kernel
theorem dd_M_check_24 : decode b_M_check 24 = .ok (.invokevirtual 188, 3) := by decide +kernel
theorem dd_M_check_27 : decode b_M_check 27 = .ok (.istore_n 2, 1) := by decide +kernel
theorem dd_M_check_28 : decode b_M_check 28 = .ok (.iload_n 2, 1) := by decide +kernel
theorem dd_M_check_29 : decode b_M_check 29 = .ok (.ifCond .gt 14, 3) := by decide +kernel
theorem dd_M_check_32 : decode b_M_check 32 = .ok (.iload_n 2, 1) := by decide +kernel
theorem dd_M_check_33 : decode b_M_check 33 = .ok (.ifCond .ne 12, 3) := by decide +kernel
theorem dd_M_check_36 : decode b_M_check 36 = .ok (.aload_n 0, 1) := by decide +kernel
theorem dd_M_check_37 : decode b_M_check 37 = .ok (.getfield 91, 3) := by decide +kernel
theorem dd_M_check_40 : decode b_M_check 40 = .ok (.ifCond .eq 5, 3) := by decide +kernel
theorem dd_M_check_43 : decode b_M_check 43 = .ok (.iload_n 1, 1) := by decide +kernel
theorem dd_M_check_44 : decode b_M_check 44 = .ok (.ireturn, 1) := by decide +kernel
theorem dd_M_check_45 : decode b_M_check 45 = .ok (.iinc 1 1, 3) := by decide +kernel
theorem dd_M_check_48 : decode b_M_check 48 = .ok (.goto (-37), 3) := by decide +kernel
theorem dd_M_check_51 : decode b_M_check 51 = .ok (.iconst (-1), 1) := by decide +kernel
theorem dd_M_check_52 : decode b_M_check 52 = .ok (.ireturn, 1) := by decide +kernel
end
section
theorem dd_M_merge_0 : decode b_M_merge 0 = .ok (.aload_n 0, 1) := by decide +kernel
theorem dd_M_merge_1 : decode b_M_merge 1 = .ok (.invokevirtual 191, 3) := by decide +kernel
theorem dd_M_merge_4 : decode b_M_merge 4 = .ok (.aload_n 0, 1) := by decide +kernel
theorem dd_M_merge_5 : decode b_M_merge 5 = .ok (.iload_n 1, 1) := by decide +kernel
theorem dd_M_merge_6 : decode b_M_merge 6 = .ok (.iconst 1, 1) := by decide +kernel
theorem dd_M_merge_7 : decode b_M_merge 7 = .ok (.if_icmp .ge 7, 3) := by decide +kernel
theorem dd_M_merge_10 : decode b_M_merge 10 = .ok (.iconst 1, 1) := by decide +kernel
theorem dd_M_merge_11 : decode b_M_merge 11 = .ok (.goto 4, 3) := by decide +kernel
theorem dd_M_merge_14 : decode b_M_merge 14 = .ok (.iconst 0, 1) := by decide +kernel
theorem dd_M_merge_15 : decode b_M_merge 15 = .ok (.iconst 1, 1) := by decide +kernel
theorem dd_M_merge_16 : decode b_M_merge 16 = .ok (.invokevirtual 70, 3) := by decide +kernel
theorem dd_M_merge_19 : decode b_M_merge 19 = .ok (.ifCond .ne 26, 3) := by decide +kernel
theorem dd_M_merge_22 : decode b_M_merge 22 = .ok (.aload_n 0, 1) := by decide +kernel
theorem dd_M_merge_23 : decode b_M_merge 23 = .ok (.aload_n 0, 1) := by decide +kernel
theorem dd_M_merge_24 : decode b_M_merge 24 = .ok (.getfield 78, 3) := by decide +kernel
theorem dd_M_merge_27 : decode b_M_merge 27 = .ok (.sipush 1000, 3) := by decide +kernel
theorem dd_M_merge_30 : decode b_M_merge 30 = .ok (.if_icmp .le 7, 3) := by decide +kernel
theorem dd_M_merge_33 : decode b_M_merge 33 = .ok (.iconst 1, 1) := by decide +kernel
theorem dd_M_merge_34 : decode b_M_merge 34 = .ok (.goto 4, 3) := by decide +kernel
theorem dd_M_merge_37 : decode b_M_merge 37 = .ok (.iconst 0, 1) := by decide +kernel
theorem dd_M_merge_38 : decode b_M_merge 38 = .ok (.iconst 2, 1) := by decide +kernel
theorem dd_M_merge_39 : decode b_M_merge 39 = .ok (.invokevirtual 70, 3) := by decide +kernel
theorem dd_M_merge_42 : decode b_M_merge 42 = .ok (.ifCond .eq 5, 3) := by decide +kernel
theorem dd_M_merge_45 : decode b_M_merge 45 = .ok (.iconst 0, 1) := by decide +kernel
theorem dd_M_merge_46 : decode b_M_merge 46 = .ok (.ireturn, 1) := by decide +kernel
theorem dd_M_merge_47 : decode b_M_merge 47 = .ok (.aload_n 0, 1) := by decide +kernel
theorem dd_M_merge_48 : decode b_M_merge 48 = .ok (.invokevirtual 209, 3) := by decide +kernel
theorem dd_M_merge_51 : decode b_M_merge 51 = .ok (.aload_n 0, 1) := by decide +kernel
theorem dd_M_merge_52 : decode b_M_merge 52 = .ok (.getfield 78, 3) := by decide +kernel
theorem dd_M_merge_55 : decode b_M_merge 55 = .ok (.i2l, 1) := by decide +kernel
theorem dd_M_merge_56 : decode b_M_merge 56 = .ok (.iload_n 1, 1) := by decide +kernel
theorem dd_M_merge_57 : decode b_M_merge 57 = .ok (.i2l, 1) := by decide +kernel
theorem dd_M_merge_58 : decode b_M_merge 58 = .ok (.ladd, 1) := by decide +kernel
theorem dd_M_merge_59 : decode b_M_merge 59 = .ok (.lconst 1, 1) := by decide +kernel
theorem dd_M_merge_60 : decode b_M_merge 60 = .ok (.lsub, 1) := by decide +kernel
theorem dd_M_merge_61 : decode b_M_merge 61 = .ok (.iload_n 1, 1) := by decide +kernel
theorem dd_M_merge_62 : decode b_M_merge 62 = .ok (.i2l, 1) := by decide +kernel
theorem dd_M_merge_63 : decode b_M_merge 63 = .ok (.ldiv, 1) := by decide +kernel
theorem dd_M_merge_64 : decode b_M_merge 64 = .ok (.l2i, 1) := by decide +kernel
theorem dd_M_merge_65 : decode b_M_merge 65 = .ok (.istore_n 2, 1) := by decide +kernel
theorem dd_M_merge_66 : decode b_M_merge 66 = .ok (.iconst 0, 1) := by decide +kernel
theorem dd_M_merge_67 : decode b_M_merge 67 = .ok (.istore_n 3, 1) := by decide +kernel
theorem dd_M_merge_68 : decode b_M_merge 68 = .ok (.iload_n 3, 1) := by decide +kernel
theorem dd_M_merge_69 : decode b_M_merge 69 = .ok (.iload_n 2, 1) := by decide +kernel
theorem dd_M_merge_70 : decode b_M_merge 70 = .ok (.if_icmp .ge 16, 3) := by decide +kernel
theorem dd_M_merge_73 : decode b_M_merge 73 = .ok (.aload_n 0, 1) := by decide +kernel
theorem dd_M_merge_74 : decode b_M_merge 74 = .ok (.getfield 54, 3) := by decide +kernel
theorem dd_M_merge_77 : decode b_M_merge 77 = .ok (.iload_n 3, 1) := by decide +kernel
theorem dd_M_merge_78 : decode b_M_merge 78 = .ok (.iconst 0, 1) := by decide +kernel
theorem dd_M_merge_79 : decode b_M_merge 79 = .ok (.iastore, 1) := by decide +kernel
theorem dd_M_merge_80 : decode b_M_merge 80 = .ok (.iinc 3 1, 3) := by decide +kernel
theorem dd_M_merge_83 : decode b_M_merge 83 = .ok (.goto (-15), 3) := by decide +kernel
theorem dd_M_merge_86 : decode b_M_merge 86 = .ok (.aload_n 0, 1) := by decide +kernel
theorem dd_M_merge_87 : decode b_M_merge 87 = .ok (.iconst 0, 1) := by decide +kernel
theorem dd_M_merge_88 : decode b_M_merge 88 = .ok (.putfield 67, 3) := by decide +kernel
theorem dd_M_merge_91 : decode b_M_merge 91 = .ok (.iconst (-1), 1) := by decide +kernel
theorem dd_M_merge_92 : decode b_M_merge 92 = .ok (.istore_n 3, 1) := by decide +kernel
theorem dd_M_merge_93 : decode b_M_merge 93 = .ok (.iconst 0, 1) := by decide +kernel
theorem dd_M_merge_94 : decode b_M_merge 94 = .ok (.istore 4, 2) := by decide +kernel
theorem dd_M_merge_96 : decode b_M_merge 96 = .ok (.iload 4, 2) := by decide +kernel
theorem dd_M_merge_98 : decode b_M_merge 98 = .ok (.aload_n 0, 1) := by decide +kernel
theorem dd_M_merge_99 : decode b_M_merge 99 = .ok (.getfield 78, 3) := by decide +kernel
theorem dd_M_merge_102 : decode b_M_merge 102 = .ok (.if_icmp .ge 169, 3) := by decide +kernel
theorem dd_M_merge_105 : decode b_M_merge 105 = .ok (.iconst (-1), 1) := by decide +kernel
theorem dd_M_merge_106 : decode b_M_merge 106 = .ok (.istore 5, 2) := by decide +kernel
theorem dd_M_merge_108 : decode b_M_merge 108 = .ok (.iconst 0, 1) := by decide +kernel
theorem dd_M_merge_109 : decode b_M_merge 109 = .ok (.istore 6, 2) := by decide +kernel
theorem dd_M_merge_111 : decode b_M_merge 111 = .ok (.iload 6, 2) := by decide +kernel
theorem dd_M_merge_113 : decode b_M_merge 113 = .ok (.iload_n 2, 1) := by decide +kernel
theorem dd_M_merge_114 : decode b_M_merge 114 = .ok (.if_icmp .ge 77, 3) := by decide +kernel
theorem dd_M_merge_117 : decode b_M_merge 117 = .ok (.iload 6, 2) := by decide +kernel
theorem dd_M_merge_119 : decode b_M_merge 119 = .ok (.iload_n 1, 1) := by decide +kernel
theorem dd_M_merge_120 : decode b_M_merge 120 = .ok (.imul, 1) := by decide +kernel
theorem dd_M_merge_121 : decode b_M_merge 121 = .ok (.aload_n 0, 1) := by decide +kernel
theorem dd_M_merge_122 : decode b_M_merge 122 = .ok (.getfield 54, 3) := by decide +kernel
theorem dd_M_merge_125 : decode b_M_merge 125 = .ok (.iload 6, 2) := by decide +kernel
theorem dd_M_merge_127 : decode b_M_merge 127 = .ok (.iaload, 1) := by decide +kernel
theorem dd_M_merge_128 : decode b_M_merge 128 = .ok (.iadd, 1) := by decide +kernel
theorem dd_M_merge_129 : decode b_M_merge 129 = .ok (.istore 7, 2) := by decide +kernel
theorem dd_M_merge_131 : decode b_M_merge 131 = .ok (.aload_n 0, 1) := by decide +kernel
theorem dd_M_merge_132 : decode b_M_merge 132 = .ok (.getfield 54, 3) := by decide +kernel
theorem dd_M_merge_135 : decode b_M_merge 135 = .ok (.iload 6, 2) := by decide +kernel
theorem dd_M_merge_137 : decode b_M_merge 137 = .ok (.iaload, 1) := by decide +kernel
theorem dd_M_merge_138 : decode b_M_merge 138 = .ok (.iload_n 1, 1) := by decide +kernel
theorem dd_M_merge_139 : decode b_M_merge 139 = .ok (.if_icmp .eq 46, 3) := by decide +kernel
theorem dd_M_merge_142 : decode b_M_merge 142 = .ok (.iload 7, 2) := by decide +kernel
theorem dd_M_merge_144 : decode b_M_merge 144 = .ok (.aload_n 0, 1) := by decide +kernel
theorem dd_M_merge_145 : decode b_M_merge 145 = .ok (.getfield 78, 3) := by decide +kernel
theorem dd_M_merge_148 : decode b_M_merge 148 = .ok (.if_icmp .lt 6, 3) := by decide +kernel
theorem dd_M_merge_151 : decode b_M_merge 151 = .ok (.goto 34, 3) := by decide +kernel
theorem dd_M_merge_154 : decode b_M_merge 154 = .ok (.iload 5, 2) := by decide +kernel
theorem dd_M_merge_156 : decode b_M_merge 156 = .ok (.iconst (-1), 1) := by decide +kernel
theorem dd_M_merge_157 : decode b_M_merge 157 = .ok (.if_icmp .eq 24, 3) := by decide +kernel
theorem dd_M_merge_160 : decode b_M_merge 160 = .ok (.aload_n 0, 1) := by decide +kernel
theorem dd_M_merge_161 : decode b_M_merge 161 = .ok (.iload 7, 2) := by decide +kernel
theorem dd_M_merge_163 : decode b_M_merge 163 = .ok (.iload 5, 2) := by decide +kernel
theorem dd_M_merge_165 : decode b_M_merge 165 = .ok (.iload_n 1, 1) := by decide +kernel
theorem dd_M_merge_166 : decode b_M_merge 166 = .ok (.imul, 1) := by decide +kernel
theorem dd_M_merge_167 : decode b_M_merge 167 = .ok (.aload_n 0, 1) := by decide +kernel
theorem dd_M_merge_168 : decode b_M_merge 168 = .ok (.getfield 54, 3) := by decide +kernel
theorem dd_M_merge_171 : decode b_M_merge 171 = .ok (.iload 5, 2) := by decide +kernel
theorem dd_M_merge_173 : decode b_M_merge 173 = .ok (.iaload, 1) := by decide +kernel
theorem dd_M_merge_174 : decode b_M_merge 174 = .ok (.iadd, 1) := by decide +kernel
theorem dd_M_merge_175 : decode b_M_merge 175 = .ok (.invokevirtual 197, 3) := by decide +kernel
theorem dd_M_merge_178 : decode b_M_merge 178 = .ok (.ifCond .eq 7, 3) := by decide +kernel
theorem dd_M_merge_181 : decode b_M_merge 181 = .ok (.iload 6, 2) := by decide +kernel
theorem dd_M_merge_183 : decode b_M_merge 183 = .ok (.istore 5, 2) := by decide +kernel
theorem dd_M_merge_185 : decode b_M_merge 185 = .ok (.iinc 6 1, 3) := by decide +kernel
theorem dd_M_merge_188 : decode b_M_merge 188 = .ok (.goto (-77), 3) := by decide +kernel
theorem dd_M_merge_191 : decode b_M_merge 191 = .ok (.iload 5, 2) := by decide +kernel
theorem dd_M_merge_193 : decode b_M_merge 193 = .ok (.iload_n 1, 1) := by decide +kernel
theorem dd_M_merge_194 : decode b_M_merge 194 = .ok (.imul, 1) := by decide +kernel
theorem dd_M_merge_195 : decode b_M_merge 195 = .ok (.aload_n 0, 1) := by decide +kernel
theorem dd_M_merge_196 : decode b_M_merge 196 = .ok (.getfield 54, 3) := by decide +kernel
theorem dd_M_merge_199 : decode b_M_merge 199 = .ok (.iload 5, 2) := by decide +kernel
theorem dd_M_merge_201 : decode b_M_merge 201 = .ok (.iaload, 1) := by decide +kernel
theorem dd_M_merge_202 : decode b_M_merge 202 = .ok (.iadd, 1) := by decide +kernel
theorem dd_M_merge_203 : decode b_M_merge 203 = .ok (.istore 6, 2) := by decide +kernel
theorem dd_M_merge_205 : decode b_M_merge 205 = .ok (.aload_n 0, 1) := by decide +kernel
theorem dd_M_merge_206 : decode b_M_merge 206 = .ok (.getfield 54, 3) := by decide +kernel
theorem dd_M_merge_209 : decode b_M_merge 209 = .ok (.iload 5, 2) := by decide +kernel
theorem dd_M_merge_211 : decode b_M_merge 211 = .ok (.dup2, 1) := by decide +kernel
theorem dd_M_merge_212 : decode b_M_merge 212 = .ok (.iaload, 1) := by decide +kernel
theorem dd_M_merge_213 : decode b_M_merge 213 = .ok (.iconst 1, 1) := by decide +kernel
theorem dd_M_merge_214 : decode b_M_merge 214 = .ok (.iadd, 1) := by decide +kernel
theorem dd_M_merge_215 : decode b_M_merge 215 = .ok (.iastore, 1) := by decide +kernel
theorem dd_M_merge_216 : decode b_M_merge 216 = .ok (.aload_n 0, 1) := by decide +kernel
theorem dd_M_merge_217 : decode b_M_merge 217 = .ok (.getfield 91, 3) := by decide +kernel
theorem dd_M_merge_220 : decode b_M_merge 220 = .ok (.ifCond .eq 21, 3) := by decide +kernel
theorem dd_M_merge_223 : decode b_M_merge 223 = .ok (.iload_n 3, 1) := by decide +kernel
theorem dd_M_merge_224 : decode b_M_merge 224 = .ok (.iconst (-1), 1) := by decide +kernel
theorem dd_M_merge_225 : decode b_M_merge 225 = .ok (.if_icmp .eq 16, 3) := by decide +kernel
theorem dd_M_merge_228 : decode b_M_merge 228 = .ok (.aload_n 0, 1) := by decide +kernel
theorem dd_M_merge_229 : decode b_M_merge 229 = .ok (.iload_n 3, 1) := by decide +kernel
theorem dd_M_merge_230 : decode b_M_merge 230 = .ok (.iload 6, 2) := by decide +kernel
theorem dd_M_merge_232 : decode b_M_merge 232 = .ok (.invokevirtual 185, 3) := by decide +kernel
theorem dd_M_merge_235 : decode b_M_merge 235 = .ok (.ifCond .ne 6, 3) := by decide +kernel
theorem dd_M_merge_238 : decode b_M_merge 238 = .ok (.goto 27, 3) := by decide +kernel
theorem dd_M_merge_241 : decode b_M_merge 241 = .ok (.iload 6, 2) := by decide +kernel
theorem dd_M_merge_243 : decode b_M_merge 243 = .ok (.istore_n 3, 1) := by decide +kernel
theorem dd_M_merge_244 : decode b_M_merge 244 = .ok (.aload_n 0, 1) := by decide +kernel
theorem dd_M_merge_245 : decode b_M_merge 245 = .ok (.getfield 36, 3) := by decide +kernel
theorem dd_M_merge_248 : decode b_M_merge 248 = .ok (.aload_n 0, 1) := by decide +kernel
theorem dd_M_merge_249 : decode b_M_merge 249 = .ok (.getfield 67, 3) := by decide +kernel
theorem dd_M_merge_252 : decode b_M_merge 252 = .ok (.iload 6, 2) := by decide +kernel
theorem dd_M_merge_254 : decode b_M_merge 254 = .ok (.iastore, 1) := by decide +kernel
theorem dd_M_merge_255 : decode b_M_merge 255 = .ok (.aload_n 0, 1) := by decide +kernel
theorem dd_M_merge_256 : decode b_M_merge 256 = .ok (.dup, 1) := by decide +kernel
theorem dd_M_merge_257 : decode b_M_merge 257 = .ok (.getfield 67, 3) := by decide +kernel
theorem dd_M_merge_260 : decode b_M_merge 260 = .ok (.iconst 1, 1) := by decide +kernel
theorem dd_M_merge_261 : decode b_M_merge 261 = .ok (.iadd, 1) := by decide +kernel
theorem dd_M_merge_262 : decode b_M_merge 262 = .ok (.putfield 67, 3) := by decide +kernel
theorem dd_M_merge_265 : decode b_M_merge 265 = .ok (.iinc 4 1, 3) := by decide +kernel
theorem dd_M_merge_268 : decode b_M_merge 268 = .ok (.goto (-172), 3) := by decide +kernel
theorem dd_M_merge_271 : decode b_M_merge 271 = .ok (.iconst 0, 1) := by decide +kernel
theorem dd_M_merge_272 : decode b_M_merge 272 = .ok (.istore 4, 2) := by decide +kernel
theorem dd_M_merge_274 : decode b_M_merge 274 = .ok (.iload 4, 2) := by decide +kernel
theorem dd_M_merge_276 : decode b_M_merge 276 = .ok (.iload_n 2, 1) := by decide +kernel
theorem dd_M_merge_277 : decode b_M_merge 277 = .ok (.if_icmp .ge 17, 3) := by decide +kernel
theorem dd_M_merge_280 : decode b_M_merge 280 = .ok (.aload_n 0, 1) := by decide +kernel
theorem dd_M_merge_281 : decode b_M_merge 281 = .ok (.getfield 54, 3) := by decide +kernel
theorem dd_M_merge_284 : decode b_M_merge 284 = .ok (.iload 4, 2) := by decide +kernel
theorem dd_M_merge_286 : decode b_M_merge 286 = .ok (.iconst 0, 1) := by decide +kernel
theorem dd_M_merge_287 : decode b_M_merge 287 = .ok (.iastore, 1) := by decide +kernel
theorem dd_M_merge_288 : decode b_M_merge 288 = .ok (.iinc 4 1, 3) := by decide +kernel
theorem dd_M_merge_291 : decode b_M_merge 291 = .ok (.goto (-17), 3) := by decide +kernel
theorem dd_M_merge_294 : decode b_M_merge 294 = .ok (.aload_n 0, 1) := by decide +kernel
theorem dd_M_merge_295 : decode b_M_merge 295 = .ok (.iconst 0, 1) := by decide +kernel
theorem dd_M_merge_296 : decode b_M_merge 296 = .ok (.putfield 126, 3) := by decide +kernel
theorem dd_M_merge_299 : decode b_M_merge 299 = .ok (.aload_n 0, 1) := by decide +kernel
theorem dd_M_merge_300 : decode b_M_merge 300 = .ok (.getfield 67, 3) := by decide +kernel
theorem dd_M_merge_303 : decode b_M_merge 303 = .ok (.ireturn, 1) := by decide +kernel
theorem dd_M_result_0 : decode b_M_result 0 = .ok (.aload_n 0, 1) := by decide +kernel
theorem dd_M_result_1 : decode b_M_result 1 = .ok (.iconst 0, 1) := by decide +kernel
theorem dd_M_result_2 : decode b_M_result 2 = .ok (.putfield 57, 3) := by decide +kernel
theorem dd_M_result_5 : decode b_M_result 5 = .ok (.iload_n 1, 1) := by decide +kernel
theorem dd_M_result_6 : decode b_M_result 6 = .ok (.ifCond .lt 20, 3) := by decide +kernel
theorem dd_M_result_9 : decode b_M_result 9 = .ok (.iload_n 1, 1) := by decide +kernel
theorem dd_M_result_10 : decode b_M_result 10 = .ok (.aload_n 0, 1) := by decide +kernel
theorem dd_M_result_11 : decode b_M_result 11 = .ok (.getfield 67, 3) := by decide +kernel
theorem dd_M_result_14 : decode b_M_result 14 = .ok (.if_icmp .ge 12, 3) := by decide +kernel
theorem dd_M_result_17 : decode b_M_result 17 = .ok (.aload_n 0, 1) := by decide +kernel
theorem dd_M_result_18 : decode b_M_result 18 = .ok (.getfield 36, 3) := by decide +kernel
theorem dd_M_result_21 : decode b_M_result 21 = .ok (.iload_n 1, 1) := by decide +kernel
theorem dd_M_result_22 : decode b_M_result 22 = .ok (.iaload, 1) := by decide +kernel
theorem dd_M_result_23 : decode b_M_result 23 = .ok (.goto 4, 3) := by decide +kernel
theorem dd_M_result_26 : decode b_M_result 26 = .ok (.iconst (-1), 1) := by decide +kernel
theorem dd_M_result_27 : decode b_M_result 27 = .ok (.ireturn, 1) := by decide +kernel
theorem dd_M_byteAt_0 : decode b_M_byteAt 0 = .ok (.aload_n 0, 1) := by decide +kernel
theorem dd_M_byteAt_1 : decode b_M_byteAt 1 = .ok (.iconst 0, 1) := by decide +kernel
theorem dd_M_byteAt_2 : decode b_M_byteAt 2 = .ok (.putfield 57, 3) := by decide +kernel
theorem dd_M_byteAt_5 : decode b_M_byteAt 5 = .ok (.iload_n 1, 1) := by decide +kernel
theorem dd_M_byteAt_6 : decode b_M_byteAt 6 = .ok (.ifCond .lt 15, 3) := by decide +kernel
theorem dd_M_byteAt_9 : decode b_M_byteAt 9 = .ok (.iload_n 1, 1) := by decide +kernel
theorem dd_M_byteAt_10 : decode b_M_byteAt 10 = .ok (.aload_n 0, 1) := by decide +kernel
theorem dd_M_byteAt_11 : decode b_M_byteAt 11 = .ok (.getfield 67, 3) := by decide +kernel
theorem dd_M_byteAt_14 : decode b_M_byteAt 14 = .ok (.if_icmp .ge 7, 3) := by decide +kernel
theorem dd_M_byteAt_17 : decode b_M_byteAt 17 = .ok (.iload_n 2, 1) := by decide +kernel
theorem dd_M_byteAt_18 : decode b_M_byteAt 18 = .ok (.ifCond .ge 5, 3) := by decide +kernel
theorem dd_M_byteAt_21 : decode b_M_byteAt 21 = .ok (.iconst (-1), 1) := by decide +kernel
theorem dd_M_byteAt_22 : decode b_M_byteAt 22 = .ok (.ireturn, 1) := by decide +kernel
theorem dd_M_byteAt_23 : decode b_M_byteAt 23 = .ok (.aload_n 0, 1) := by decide +kernel
theorem dd_M_byteAt_24 : decode b_M_byteAt 24 = .ok (.getfield 36, 3) := by decide +kernel
theorem dd_M_byteAt_27 : decode b_M_byteAt 27 = .ok (.iload_n 1, 1) := by decide +kernel
theorem dd_M_byteAt_28 : decode b_M_byteAt 28 = .ok (.iaload, 1) := by decide +kernel
theorem dd_M_byteAt_29 : decode b_M_byteAt 29 = .ok (.istore_n 3, 1) := by decide +kernel
theorem dd_M_byteAt_30 : decode b_M_byteAt 30 = .ok (.iload_n 2, 1) := by decide +kernel
theorem dd_M_byteAt_31 : decode b_M_byteAt 31 = .ok (.aload_n 0, 1) := by decide +kernel
theorem dd_M_byteAt_32 : decode b_M_byteAt 32 = .ok (.iload_n 3, 1) := by decide +kernel
theorem dd_M_byteAt_33 : decode b_M_byteAt 33 = .ok (.invokevirtual 97, 3) := by decide +kernel
theorem dd_M_byteAt_36 : decode b_M_byteAt 36 = .ok (.aload_n 0, 1) := by decide +kernel
theorem dd_M_byteAt_37 : decode b_M_byteAt 37 = .ok (.iload_n 3, 1) := by decide +kernel
theorem dd_M_byteAt_38 : decode b_M_byteAt 38 = .ok (.invokevirtual 101, 3) := by decide +kernel
theorem dd_M_byteAt_41 : decode b_M_byteAt 41 = .ok (.isub, 1) := by decide +kernel
theorem dd_M_byteAt_42 : decode b_M_byteAt 42 = .ok (.if_icmp .ge 22, 3) := by decide +kernel
theorem dd_M_byteAt_45 : decode b_M_byteAt 45 = .ok (.aload_n 0, 1) := by decide +kernel
theorem dd_M_byteAt_46 : decode b_M_byteAt 46 = .ok (.getfield 7, 3) := by decide +kernel
theorem dd_M_byteAt_49 : decode b_M_byteAt 49 = .ok (.aload_n 0, 1) := by decide +kernel
theorem dd_M_byteAt_50 : decode b_M_byteAt 50 = .ok (.iload_n 3, 1) := by decide +kernel
theorem dd_M_byteAt_51 : decode b_M_byteAt 51 = .ok (.invokevirtual 101, 3) := by decide +kernel
theorem dd_M_byteAt_54 : decode b_M_byteAt 54 = .ok (.iload_n 2, 1) := by decide +kernel
theorem dd_M_byteAt_55 : decode b_M_byteAt 55 = .ok (.iadd, 1) := by decide +kernel
theorem dd_M_byteAt_56 : decode b_M_byteAt 56 = .ok (.baload, 1) := by decide +kernel
theorem dd_M_byteAt_57 : decode b_M_byteAt 57 = .ok (.sipush 255, 3) := by decide +kernel
theorem dd_M_byteAt_60 : decode b_M_byteAt 60 = .ok (.iand, 1) := by decide +kernel
theorem dd_M_byteAt_61 : decode b_M_byteAt 61 = .ok (.goto 4, 3) := by decide +kernel
theorem dd_M_byteAt_64 : decode b_M_byteAt 64 = .ok (.iconst (-1), 1) := by decide +kernel
theorem dd_M_byteAt_65 : decode b_M_byteAt 65 = .ok (.ireturn, 1) := by decide +kernel
theorem dd_M_run_0 : decode b_M_run 0 = .ok (.aload_n 0, 1) := by decide +kernel
theorem dd_M_run_1 : decode b_M_run 1 = .ok (.iconst 0, 1) := by decide +kernel
theorem dd_M_run_2 : decode b_M_run 2 = .ok (.putfield 57, 3) := by decide +kernel
theorem dd_M_run_5 : decode b_M_run 5 = .ok (.iload_n 1, 1) := by decide +kernel
theorem dd_M_run_6 : decode b_M_run 6 = .ok (.ifCond .lt 20, 3) := by decide +kernel
theorem dd_M_run_9 : decode b_M_run 9 = .ok (.iload_n 1, 1) := by decide +kernel
theorem dd_M_run_10 : decode b_M_run 10 = .ok (.aload_n 0, 1) := by decide +kernel
theorem dd_M_run_11 : decode b_M_run 11 = .ok (.getfield 215, 3) := by decide +kernel
theorem dd_M_run_14 : decode b_M_run 14 = .ok (.if_icmp .ge 12, 3) := by decide +kernel
theorem dd_M_run_17 : decode b_M_run 17 = .ok (.aload_n 0, 1) := by decide +kernel
theorem dd_M_run_18 : decode b_M_run 18 = .ok (.getfield 48, 3) := by decide +kernel
theorem dd_M_run_21 : decode b_M_run 21 = .ok (.iload_n 1, 1) := by decide +kernel
theorem dd_M_run_22 : decode b_M_run 22 = .ok (.iaload, 1) := by decide +kernel
theorem dd_M_run_23 : decode b_M_run 23 = .ok (.goto 4, 3) := by decide +kernel
theorem dd_M_run_26 : decode b_M_run 26 = .ok (.iconst (-1), 1) := by decide +kernel
theorem dd_M_run_27 : decode b_M_run 27 = .ok (.ireturn, 1) := by decide +kernel
theorem dd_M_about_0 : decode b_M_about 0 = .ok (.aload_n 0, 1) := by decide +kernel
theorem dd_M_about_1 : decode b_M_about 1 = .ok (.iload_n 1, 1) := by decide +kernel
theorem dd_M_about_2 : decode b_M_about 2 = .ok (.ifCond .lt 9, 3) := by decide +kernel
theorem dd_M_about_5 : decode b_M_about 5 = .ok (.iload_n 1, 1) := by decide +kernel
theorem dd_M_about_6 : decode b_M_about 6 = .ok (.bipush 6, 2) := by decide +kernel
theorem dd_M_about_8 : decode b_M_about 8 = .ok (.if_icmp .le 7, 3) := by decide +kernel
theorem dd_M_about_11 : decode b_M_about 11 = .ok (.iconst 1, 1) := by decide +kernel
theorem dd_M_about_12 : decode b_M_about 12 = .ok (.goto 4, 3) := by decide +kernel
theorem dd_M_about_15 : decode b_M_about 15 = .ok (.iconst 0, 1) := by decide +kernel
theorem dd_M_about_16 : decode b_M_about 16 = .ok (.iconst 1, 1) := by decide +kernel
theorem dd_M_about_17 : decode b_M_about 17 = .ok (.invokevirtual 70, 3) := by decide +kernel
theorem dd_M_about_20 : decode b_M_about 20 = .ok (.ifCond .eq 5, 3) := by decide +kernel
theorem dd_M_about_23 : decode b_M_about 23 = .ok (.iconst 0, 1) := by decide +kernel
theorem dd_M_about_24 : decode b_M_about 24 = .ok (.ireturn, 1) := by decide +kernel
theorem dd_M_about_25 : decode b_M_about 25 = .ok (.iload_n 1, 1) := by decide +kernel
theorem dd_M_about_26 : decode b_M_about 26 = .ok (.tableswitch 68 0 5 #[38, 43, 48, 53, 58, 63], 38) := by decide +kernel
theorem dd_M_about_64 : decode b_M_about 64 = .ok (.aload_n 0, 1) := by decide +kernel
theorem dd_M_about_65 : decode b_M_about 65 = .ok (.getfield 215, 3) := by decide +kernel
theorem dd_M_about_68 : decode b_M_about 68 = .ok (.ireturn, 1) := by decide +kernel
theorem dd_M_about_69 : decode b_M_about 69 = .ok (.aload_n 0, 1) := by decide +kernel
theorem dd_M_about_70 : decode b_M_about 70 = .ok (.getfield 203, 3) := by decide +kernel
theorem dd_M_about_73 : decode b_M_about 73 = .ok (.ireturn, 1) := by decide +kernel
theorem dd_M_about_74 : decode b_M_about 74 = .ok (.aload_n 0, 1) := by decide +kernel
theorem dd_M_about_75 : decode b_M_about 75 = .ok (.getfield 206, 3) := by decide +kernel
theorem dd_M_about_78 : decode b_M_about 78 = .ok (.ireturn, 1) := by decide +kernel
theorem dd_M_about_79 : decode b_M_about 79 = .ok (.aload_n 0, 1) := by decide +kernel
theorem dd_M_about_80 : decode b_M_about 80 = .ok (.getfield 221, 3) := by decide +kernel
theorem dd_M_about_83 : decode b_M_about 83 = .ok (.ireturn, 1) := by decide +kernel
theorem dd_M_about_84 : decode b_M_about 84 = .ok (.aload_n 0, 1) := by decide +kernel
theorem dd_M_about_85 : decode b_M_about 85 = .ok (.getfield 60, 3) := by decide +kernel
theorem dd_M_about_88 : decode b_M_about 88 = .ok (.ireturn, 1) := by decide +kernel
theorem dd_M_about_89 : decode b_M_about 89 = .ok (.aload_n 0, 1) := by decide +kernel
theorem dd_M_about_90 : decode b_M_about 90 = .ok (.getfield 94, 3) := by decide +kernel
theorem dd_M_about_93 : decode b_M_about 93 = .ok (.ireturn, 1) := by decide +kernel
theorem dd_M_about_94 : decode b_M_about 94 = .ok (.aload_n 0, 1) := by decide +kernel
theorem dd_M_about_95 : decode b_M_about 95 = .ok (.getfield 67, 3) := by decide +kernel
theorem dd_M_about_98 : decode b_M_about 98 = .ok (.ireturn, 1) := by decide +kernel
theorem dd_H_init_0 : decode b_H_init 0 = .ok (.aload_n 0, 1) := by decide +kernel
theorem dd_H_init_1 : decode b_H_init 1 = .ok (.invokespecial 3, 3) := by decide +kernel
theorem dd_H_init_4 : decode b_H_init 4 = .ok (.aload_n 0, 1) := by decide +kernel
theorem dd_H_init_5 : decode b_H_init 5 = .ok (.sipush 1000, 3) := by decide +kernel
theorem dd_H_init_8 : decode b_H_init 8 = .ok (.newarray .int, 2) := by decide +kernel
theorem dd_H_init_10 : decode b_H_init 10 = .ok (.putfield 9, 3) := by decide +kernel
theorem dd_H_init_13 : decode b_H_init 13 = .ok (.aload_n 0, 1) := by decide +kernel
theorem dd_H_init_14 : decode b_H_init 14 = .ok (.iconst 0, 1) := by decide +kernel
theorem dd_H_init_15 : decode b_H_init 15 = .ok (.putfield 15, 3) := by decide +kernel
theorem dd_H_init_18 : decode b_H_init 18 = .ok (.return_, 1) := by decide +kernel
theorem dd_H_clear_0 : decode b_H_clear 0 = .ok (.aload_n 0, 1) := by decide +kernel
theorem dd_H_clear_1 : decode b_H_clear 1 = .ok (.iconst 0, 1) := by decide +kernel
theorem dd_H_clear_2 : decode b_H_clear 2 = .ok (.putfield 15, 3) := by decide +kernel
theorem dd_H_clear_5 : decode b_H_clear 5 = .ok (.return_, 1) := by decide +kernel
theorem dd_H_put_0 : decode b_H_put 0 = .ok (.aload_n 0, 1) := by decide +kernel
theorem dd_H_put_1 : decode b_H_put 1 = .ok (.getfield 15, 3) := by decide +kernel
theorem dd_H_put_4 : decode b_H_put 4 = .ok (.sipush 1000, 3) := by decide +kernel
theorem dd_H_put_7 : decode b_H_put 7 = .ok (.if_icmp .ne 4, 3) := by decide +kernel
theorem dd_H_put_10 : decode b_H_put 10 = .ok (.return_, 1) := by decide +kernel
theorem dd_H_put_11 : decode b_H_put 11 = .ok (.aload_n 0, 1) := by decide +kernel
theorem dd_H_put_12 : decode b_H_put 12 = .ok (.getfield 15, 3) := by decide +kernel
theorem dd_H_put_15 : decode b_H_put 15 = .ok (.istore_n 2, 1) := by decide +kernel
theorem dd_H_put_16 : decode b_H_put 16 = .ok (.aload_n 0, 1) := by decide +kernel
theorem dd_H_put_17 : decode b_H_put 17 = .ok (.dup, 1) := by decide +kernel
theorem dd_H_put_18 : decode b_H_put 18 = .ok (.getfield 15, 3) := by decide +kernel
theorem dd_H_put_21 : decode b_H_put 21 = .ok (.iconst 1, 1) := by decide +kernel
theorem dd_H_put_22 : decode b_H_put 22 = .ok (.iadd, 1) := by decide +kernel
theorem dd_H_put_23 : decode b_H_put 23 = .ok (.putfield 15, 3) := by decide +kernel
theorem dd_H_put_26 : decode b_H_put 26 = .ok (.iload_n 2, 1) := by decide +kernel
theorem dd_H_put_27 : decode b_H_put 27 = .ok (.ifCond .le 42, 3) := by decide +kernel
theorem dd_H_put_30 : decode b_H_put 30 = .ok (.aload_n 0, 1) := by decide +kernel
theorem dd_H_put_31 : decode b_H_put 31 = .ok (.getfield 9, 3) := by decide +kernel
theorem dd_H_put_34 : decode b_H_put 34 = .ok (.iload_n 2, 1) := by decide +kernel
theorem dd_H_put_35 : decode b_H_put 35 = .ok (.iconst 1, 1) := by decide +kernel
theorem dd_H_put_36 : decode b_H_put 36 = .ok (.isub, 1) := by decide +kernel
theorem dd_H_put_37 : decode b_H_put 37 = .ok (.iconst 2, 1) := by decide +kernel
theorem dd_H_put_38 : decode b_H_put 38 = .ok (.idiv, 1) := by decide +kernel
theorem dd_H_put_39 : decode b_H_put 39 = .ok (.iaload, 1) := by decide +kernel
theorem dd_H_put_40 : decode b_H_put 40 = .ok (.iload_n 1, 1) := by decide +kernel
theorem dd_H_put_41 : decode b_H_put 41 = .ok (.if_icmp .le 28, 3) := by decide +kernel
theorem dd_H_put_44 : decode b_H_put 44 = .ok (.aload_n 0, 1) := by decide +kernel
theorem dd_H_put_45 : decode b_H_put 45 = .ok (.getfield 9, 3) := by decide +kernel
theorem dd_H_put_48 : decode b_H_put 48 = .ok (.iload_n 2, 1) := by decide +kernel
theorem dd_H_put_49 : decode b_H_put 49 = .ok (.aload_n 0, 1) := by decide +kernel
theorem dd_H_put_50 : decode b_H_put 50 = .ok (.getfield 9, 3) := by decide +kernel
theorem dd_H_put_53 : decode b_H_put 53 = .ok (.iload_n 2, 1) := by decide +kernel
theorem dd_H_put_54 : decode b_H_put 54 = .ok (.iconst 1, 1) := by decide +kernel
theorem dd_H_put_55 : decode b_H_put 55 = .ok (.isub, 1) := by decide +kernel
theorem dd_H_put_56 : decode b_H_put 56 = .ok (.iconst 2, 1) := by decide +kernel
theorem dd_H_put_57 : decode b_H_put 57 = .ok (.idiv, 1) := by decide +kernel
theorem dd_H_put_58 : decode b_H_put 58 = .ok (.iaload, 1) := by decide +kernel
theorem dd_H_put_59 : decode b_H_put 59 = .ok (.iastore, 1) := by decide +kernel
theorem dd_H_put_60 : decode b_H_put 60 = .ok (.iload_n 2, 1) := by decide +kernel
theorem dd_H_put_61 : decode b_H_put 61 = .ok (.iconst 1, 1) := by decide +kernel
theorem dd_H_put_62 : decode b_H_put 62 = .ok (.isub, 1) := by decide +kernel
theorem dd_H_put_63 : decode b_H_put 63 = .ok (.iconst 2, 1) := by decide +kernel
theorem dd_H_put_64 : decode b_H_put 64 = .ok (.idiv, 1) := by decide +kernel
theorem dd_H_put_65 : decode b_H_put 65 = .ok (.istore_n 2, 1) := by decide +kernel
theorem dd_H_put_66 : decode b_H_put 66 = .ok (.goto (-40), 3) := by decide +kernel
theorem dd_H_put_69 : decode b_H_put 69 = .ok (.aload_n 0, 1) := by decide +kernel
theorem dd_H_put_70 : decode b_H_put 70 = .ok (.getfield 9, 3) := by decide +kernel
theorem dd_H_put_73 : decode b_H_put 73 = .ok (.iload_n 2, 1) := by decide +kernel
theorem dd_H_put_74 : decode b_H_put 74 = .ok (.iload_n 1, 1) := by decide +kernel
theorem dd_H_put_75 : decode b_H_put 75 = .ok (.iastore, 1) := by decide +kernel
theorem dd_H_put_76 : decode b_H_put 76 = .ok (.return_, 1) := by decide +kernel
theorem dd_H_takeLeast_0 : decode b_H_takeLeast 0 = .ok (.aload_n 0, 1) := by decide +kernel
theorem dd_H_takeLeast_1 : decode b_H_takeLeast 1 = .ok (.getfield 9, 3) := by decide +kernel
theorem dd_H_takeLeast_4 : decode b_H_takeLeast 4 = .ok (.iconst 0, 1) := by decide +kernel
theorem dd_H_takeLeast_5 : decode b_H_takeLeast 5 = .ok (.iaload, 1) := by decide +kernel
theorem dd_H_takeLeast_6 : decode b_H_takeLeast 6 = .ok (.istore_n 1, 1) := by decide +kernel
theorem dd_H_takeLeast_7 : decode b_H_takeLeast 7 = .ok (.aload_n 0, 1) := by decide +kernel
theorem dd_H_takeLeast_8 : decode b_H_takeLeast 8 = .ok (.getfield 15, 3) := by decide +kernel
theorem dd_H_takeLeast_11 : decode b_H_takeLeast 11 = .ok (.ifCond .le 26, 3) := by decide +kernel
theorem dd_H_takeLeast_14 : decode b_H_takeLeast 14 = .ok (.aload_n 0, 1) := by decide +kernel
theorem dd_H_takeLeast_15 : decode b_H_takeLeast 15 = .ok (.dup, 1) := by decide +kernel
theorem dd_H_takeLeast_16 : decode b_H_takeLeast 16 = .ok (.getfield 15, 3) := by decide +kernel
theorem dd_H_takeLeast_19 : decode b_H_takeLeast 19 = .ok (.iconst 1, 1) := by decide +kernel
theorem dd_H_takeLeast_20 : decode b_H_takeLeast 20 = .ok (.isub, 1) := by decide +kernel
theorem dd_H_takeLeast_21 : decode b_H_takeLeast 21 = .ok (.putfield 15, 3) := by decide +kernel
theorem dd_H_takeLeast_24 : decode b_H_takeLeast 24 = .ok (.aload_n 0, 1) := by decide +kernel
theorem dd_H_takeLeast_25 : decode b_H_takeLeast 25 = .ok (.aload_n 0, 1) := by decide +kernel
theorem dd_H_takeLeast_26 : decode b_H_takeLeast 26 = .ok (.getfield 9, 3) := by decide +kernel
theorem dd_H_takeLeast_29 : decode b_H_takeLeast 29 = .ok (.aload_n 0, 1) := by decide +kernel
theorem dd_H_takeLeast_30 : decode b_H_takeLeast 30 = .ok (.getfield 15, 3) := by decide +kernel
theorem dd_H_takeLeast_33 : decode b_H_takeLeast 33 = .ok (.iaload, 1) := by decide +kernel
theorem dd_H_takeLeast_34 : decode b_H_takeLeast 34 = .ok (.invokevirtual 19, 3) := by decide +kernel
theorem dd_H_takeLeast_37 : decode b_H_takeLeast 37 = .ok (.iload_n 1, 1) := by decide +kernel
theorem dd_H_takeLeast_38 : decode b_H_takeLeast 38 = .ok (.ireturn, 1) := by decide +kernel
theorem dd_H_sinkFromTop_0 : decode b_H_sinkFromTop 0 = .ok (.iconst 0, 1) := by decide +kernel
theorem dd_H_sinkFromTop_1 : decode b_H_sinkFromTop 1 = .ok (.istore_n 2, 1) := by decide +kernel
theorem dd_H_sinkFromTop_2 : decode b_H_sinkFromTop 2 = .ok (.iconst 1, 1) := by decide +kernel
theorem dd_H_sinkFromTop_3 : decode b_H_sinkFromTop 3 = .ok (.istore_n 3, 1) := by decide +kernel
theorem dd_H_sinkFromTop_4 : decode b_H_sinkFromTop 4 = .ok (.iload_n 3, 1) := by decide +kernel
theorem dd_H_sinkFromTop_5 : decode b_H_sinkFromTop 5 = .ok (.aload_n 0, 1) := by decide +kernel
theorem dd_H_sinkFromTop_6 : decode b_H_sinkFromTop 6 = .ok (.getfield 15, 3) := by decide +kernel
theorem dd_H_sinkFromTop_9 : decode b_H_sinkFromTop 9 = .ok (.if_icmp .ge 69, 3) := by decide +kernel
theorem dd_H_sinkFromTop_12 : decode b_H_sinkFromTop 12 = .ok (.iload_n 3, 1) := by decide +kernel
theorem dd_H_sinkFromTop_13 : decode b_H_sinkFromTop 13 = .ok (.iconst 1, 1) := by decide +kernel
theorem dd_H_sinkFromTop_14 : decode b_H_sinkFromTop 14 = .ok (.iadd, 1) := by decide +kernel
theorem dd_H_sinkFromTop_15 : decode b_H_sinkFromTop 15 = .ok (.aload_n 0, 1) := by decide +kernel
theorem dd_H_sinkFromTop_16 : decode b_H_sinkFromTop 16 = .ok (.getfield 15, 3) := by decide +kernel
theorem dd_H_sinkFromTop_19 : decode b_H_sinkFromTop 19 = .ok (.if_icmp .ge 23, 3) := by decide +kernel
theorem dd_H_sinkFromTop_22 : decode b_H_sinkFromTop 22 = .ok (.aload_n 0, 1) := by decide +kernel
theorem dd_H_sinkFromTop_23 : decode b_H_sinkFromTop 23 = .ok (.getfield 9, 3) := by decide +kernel
theorem dd_H_sinkFromTop_26 : decode b_H_sinkFromTop 26 = .ok (.iload_n 3, 1) := by decide +kernel
theorem dd_H_sinkFromTop_27 : decode b_H_sinkFromTop 27 = .ok (.iconst 1, 1) := by decide +kernel
theorem dd_H_sinkFromTop_28 : decode b_H_sinkFromTop 28 = .ok (.iadd, 1) := by decide +kernel
theorem dd_H_sinkFromTop_29 : decode b_H_sinkFromTop 29 = .ok (.iaload, 1) := by decide +kernel
theorem dd_H_sinkFromTop_30 : decode b_H_sinkFromTop 30 = .ok (.aload_n 0, 1) := by decide +kernel
theorem dd_H_sinkFromTop_31 : decode b_H_sinkFromTop 31 = .ok (.getfield 9, 3) := by decide +kernel
theorem dd_H_sinkFromTop_34 : decode b_H_sinkFromTop 34 = .ok (.iload_n 3, 1) := by decide +kernel
theorem dd_H_sinkFromTop_35 : decode b_H_sinkFromTop 35 = .ok (.iaload, 1) := by decide +kernel
theorem dd_H_sinkFromTop_36 : decode b_H_sinkFromTop 36 = .ok (.if_icmp .ge 6, 3) := by decide +kernel
theorem dd_H_sinkFromTop_39 : decode b_H_sinkFromTop 39 = .ok (.iinc 3 1, 3) := by decide +kernel
theorem dd_H_sinkFromTop_42 : decode b_H_sinkFromTop 42 = .ok (.aload_n 0, 1) := by decide +kernel
theorem dd_H_sinkFromTop_43 : decode b_H_sinkFromTop 43 = .ok (.getfield 9, 3) := by decide +kernel
theorem dd_H_sinkFromTop_46 : decode b_H_sinkFromTop 46 = .ok (.iload_n 3, 1) := by decide +kernel
theorem dd_H_sinkFromTop_47 : decode b_H_sinkFromTop 47 = .ok (.iaload, 1) := by decide +kernel
theorem dd_H_sinkFromTop_48 : decode b_H_sinkFromTop 48 = .ok (.iload_n 1, 1) := by decide +kernel
theorem dd_H_sinkFromTop_49 : decode b_H_sinkFromTop 49 = .ok (.if_icmp .lt 6, 3) := by decide +kernel
theorem dd_H_sinkFromTop_52 : decode b_H_sinkFromTop 52 = .ok (.goto 26, 3) := by decide +kernel
theorem dd_H_sinkFromTop_55 : decode b_H_sinkFromTop 55 = .ok (.aload_n 0, 1) := by decide +kernel
theorem dd_H_sinkFromTop_56 : decode b_H_sinkFromTop 56 = .ok (.getfield 9, 3) := by decide +kernel
theorem dd_H_sinkFromTop_59 : decode b_H_sinkFromTop 59 = .ok (.iload_n 2, 1) := by decide +kernel
theorem dd_H_sinkFromTop_60 : decode b_H_sinkFromTop 60 = .ok (.aload_n 0, 1) := by decide +kernel
theorem dd_H_sinkFromTop_61 : decode b_H_sinkFromTop 61 = .ok (.getfield 9, 3) := by decide +kernel
theorem dd_H_sinkFromTop_64 : decode b_H_sinkFromTop 64 = .ok (.iload_n 3, 1) := by decide +kernel
theorem dd_H_sinkFromTop_65 : decode b_H_sinkFromTop 65 = .ok (.iaload, 1) := by decide +kernel
theorem dd_H_sinkFromTop_66 : decode b_H_sinkFromTop 66 = .ok (.iastore, 1) := by decide +kernel
theorem dd_H_sinkFromTop_67 : decode b_H_sinkFromTop 67 = .ok (.iload_n 3, 1) := by decide +kernel
theorem dd_H_sinkFromTop_68 : decode b_H_sinkFromTop 68 = .ok (.istore_n 2, 1) := by decide +kernel
theorem dd_H_sinkFromTop_69 : decode b_H_sinkFromTop 69 = .ok (.iconst 2, 1) := by decide +kernel
theorem dd_H_sinkFromTop_70 : decode b_H_sinkFromTop 70 = .ok (.iload_n 2, 1) := by decide +kernel
theorem dd_H_sinkFromTop_71 : decode b_H_sinkFromTop 71 = .ok (.imul, 1) := by decide +kernel
theorem dd_H_sinkFromTop_72 : decode b_H_sinkFromTop 72 = .ok (.iconst 1, 1) := by decide +kernel
theorem dd_H_sinkFromTop_73 : decode b_H_sinkFromTop 73 = .ok (.iadd, 1) := by decide +kernel
theorem dd_H_sinkFromTop_74 : decode b_H_sinkFromTop 74 = .ok (.istore_n 3, 1) := by decide +kernel
theorem dd_H_sinkFromTop_75 : decode b_H_sinkFromTop 75 = .ok (.goto (-71), 3) := by decide +kernel
theorem dd_H_sinkFromTop_78 : decode b_H_sinkFromTop 78 = .ok (.aload_n 0, 1) := by decide +kernel
theorem dd_H_sinkFromTop_79 : decode b_H_sinkFromTop 79 = .ok (.getfield 9, 3) := by decide +kernel
theorem dd_H_sinkFromTop_82 : decode b_H_sinkFromTop 82 = .ok (.iload_n 2, 1) := by decide +kernel
theorem dd_H_sinkFromTop_83 : decode b_H_sinkFromTop 83 = .ok (.iload_n 1, 1) := by decide +kernel
theorem dd_H_sinkFromTop_84 : decode b_H_sinkFromTop 84 = .ok (.iastore, 1) := by decide +kernel
theorem dd_H_sinkFromTop_85 : decode b_H_sinkFromTop 85 = .ok (.return_, 1) := by decide +kernel
theorem dd_K_init_0 : decode b_K_init 0 = .ok (.aload_n 0, 1) := by decide +kernel
theorem dd_K_init_1 : decode b_K_init 1 = .ok (.invokespecial 1, 3) := by decide +kernel
theorem dd_K_init_4 : decode b_K_init 4 = .ok (.aload_n 0, 1) := by decide +kernel
theorem dd_K_init_5 : decode b_K_init 5 = .ok (.iload_n 1, 1) := by decide +kernel
theorem dd_K_init_6 : decode b_K_init 6 = .ok (.putfield 7, 3) := by decide +kernel
theorem dd_K_init_9 : decode b_K_init 9 = .ok (.aload_n 0, 1) := by decide +kernel
theorem dd_K_init_10 : decode b_K_init 10 = .ok (.iload_n 2, 1) := by decide +kernel
theorem dd_K_init_11 : decode b_K_init 11 = .ok (.putfield 13, 3) := by decide +kernel
theorem dd_K_init_14 : decode b_K_init 14 = .ok (.aload_n 0, 1) := by decide +kernel
theorem dd_K_init_15 : decode b_K_init 15 = .ok (.iload_n 3, 1) := by decide +kernel
theorem dd_K_init_16 : decode b_K_init 16 = .ok (.putfield 16, 3) := by decide +kernel
theorem dd_K_init_19 : decode b_K_init 19 = .ok (.aload_n 0, 1) := by decide +kernel
theorem dd_K_init_20 : decode b_K_init 20 = .ok (.iload 4, 2) := by decide +kernel
theorem dd_K_init_22 : decode b_K_init 22 = .ok (.putfield 19, 3) := by decide +kernel
theorem dd_K_init_25 : decode b_K_init 25 = .ok (.aload_n 0, 1) := by decide +kernel
theorem dd_K_init_26 : decode b_K_init 26 = .ok (.iload 5, 2) := by decide +kernel
theorem dd_K_init_28 : decode b_K_init 28 = .ok (.putfield 22, 3) := by decide +kernel
theorem dd_K_init_31 : decode b_K_init 31 = .ok (.return_, 1) := by decide +kernel
theorem dd_N_init_0 : decode b_N_init 0 = .ok (.aload_n 0, 1) := by decide +kernel
theorem dd_N_init_1 : decode b_N_init 1 = .ok (.invokespecial 1, 3) := by decide +kernel
theorem dd_N_init_4 : decode b_N_init 4 = .ok (.return_, 1) := by decide +kernel
end
section
theorem dd_N_read_0 : decode b_N_read 0 = .ok (.iload_n 2, 1) := by decide +kernel
theorem dd_N_read_1 : decode b_N_read 1 = .ok (.istore 4, 2) := by decide +kernel
theorem dd_N_read_3 : decode b_N_read 3 = .ok (.iload 4, 2) := by decide +kernel
theorem dd_N_read_5 : decode b_N_read 5 = .ok (.iload_n 3, 1) := by decide +kernel
theorem dd_N_read_6 : decode b_N_read 6 = .ok (.if_icmp .ge 18, 3) := by decide +kernel
theorem dd_N_read_9 : decode b_N_read 9 = .ok (.aload_n 1, 1) := by decide +kernel
theorem dd_N_read_10 : decode b_N_read 10 = .ok (.iload 4, 2) := by decide +kernel
theorem dd_N_read_12 : decode b_N_read 12 = .ok (.invokevirtual 7, 3) := by decide +kernel
theorem dd_N_read_15 : decode b_N_read 15 = .ok (.ifCond .eq 9, 3) := by decide +kernel
theorem dd_N_read_18 : decode b_N_read 18 = .ok (.iinc 4 1, 3) := by decide +kernel
theorem dd_N_read_21 : decode b_N_read 21 = .ok (.goto (-18), 3) := by decide +kernel
theorem dd_N_read_24 : decode b_N_read 24 = .ok (.iload 4, 2) := by decide +kernel
theorem dd_N_read_26 : decode b_N_read 26 = .ok (.iload_n 3, 1) := by decide +kernel
theorem dd_N_read_27 : decode b_N_read 27 = .ok (.if_icmp .ge 18, 3) := by decide +kernel
theorem dd_N_read_30 : decode b_N_read 30 = .ok (.aload_n 1, 1) := by decide +kernel
theorem dd_N_read_31 : decode b_N_read 31 = .ok (.iload 4, 2) := by decide +kernel
theorem dd_N_read_33 : decode b_N_read 33 = .ok (.invokevirtual 13, 3) := by decide +kernel
theorem dd_N_read_36 : decode b_N_read 36 = .ok (.bipush 45, 2) := by decide +kernel
theorem dd_N_read_38 : decode b_N_read 38 = .ok (.if_icmp .ne 7, 3) := by decide +kernel
theorem dd_N_read_41 : decode b_N_read 41 = .ok (.iconst 1, 1) := by decide +kernel
theorem dd_N_read_42 : decode b_N_read 42 = .ok (.goto 4, 3) := by decide +kernel
theorem dd_N_read_45 : decode b_N_read 45 = .ok (.iconst 0, 1) := by decide +kernel
theorem dd_N_read_46 : decode b_N_read 46 = .ok (.istore 5, 2) := by decide +kernel
theorem dd_N_read_48 : decode b_N_read 48 = .ok (.iload 5, 2) := by decide +kernel
theorem dd_N_read_50 : decode b_N_read 50 = .ok (.ifCond .eq 6, 3) := by decide +kernel
theorem dd_N_read_53 : decode b_N_read 53 = .ok (.iinc 4 1, 3) := by decide +kernel
theorem dd_N_read_56 : decode b_N_read 56 = .ok (.iload 4, 2) := by decide +kernel
theorem dd_N_read_58 : decode b_N_read 58 = .ok (.iload_n 3, 1) := by decide +kernel
theorem dd_N_read_59 : decode b_N_read 59 = .ok (.if_icmp .ge 20, 3) := by decide +kernel
theorem dd_N_read_62 : decode b_N_read 62 = .ok (.aload_n 1, 1) := by decide +kernel
theorem dd_N_read_63 : decode b_N_read 63 = .ok (.iload 4, 2) := by decide +kernel
theorem dd_N_read_65 : decode b_N_read 65 = .ok (.invokevirtual 13, 3) := by decide +kernel
theorem dd_N_read_68 : decode b_N_read 68 = .ok (.bipush 48, 2) := by decide +kernel
theorem dd_N_read_70 : decode b_N_read 70 = .ok (.if_icmp .ne 9, 3) := by decide +kernel
theorem dd_N_read_73 : decode b_N_read 73 = .ok (.iinc 4 1, 3) := by decide +kernel
theorem dd_N_read_76 : decode b_N_read 76 = .ok (.goto (-20), 3) := by decide +kernel
theorem dd_N_read_79 : decode b_N_read 79 = .ok (.aload_n 0, 1) := by decide +kernel
theorem dd_N_read_80 : decode b_N_read 80 = .ok (.iload 4, 2) := by decide +kernel
theorem dd_N_read_82 : decode b_N_read 82 = .ok (.putfield 17, 3) := by decide +kernel
theorem dd_N_read_85 : decode b_N_read 85 = .ok (.aload_n 0, 1) := by decide +kernel
theorem dd_N_read_86 : decode b_N_read 86 = .ok (.aload_n 1, 1) := by decide +kernel
theorem dd_N_read_87 : decode b_N_read 87 = .ok (.aload_n 0, 1) := by decide +kernel
theorem dd_N_read_88 : decode b_N_read 88 = .ok (.getfield 17, 3) := by decide +kernel
theorem dd_N_read_91 : decode b_N_read 91 = .ok (.iload_n 3, 1) := by decide +kernel
theorem dd_N_read_92 : decode b_N_read 92 = .ok (.invokevirtual 23, 3) := by decide +kernel
theorem dd_N_read_95 : decode b_N_read 95 = .ok (.putfield 27, 3) := by decide +kernel
theorem dd_N_read_98 : decode b_N_read 98 = .ok (.aload_n 0, 1) := by decide +kernel
theorem dd_N_read_99 : decode b_N_read 99 = .ok (.getfield 27, 3) := by decide +kernel
theorem dd_N_read_102 : decode b_N_read 102 = .ok (.iload_n 3, 1) := by decide +kernel
theorem dd_N_read_103 : decode b_N_read 103 = .ok (.if_icmp .ge 20, 3) := by decide +kernel
theorem dd_N_read_106 : decode b_N_read 106 = .ok (.aload_n 1, 1) := by decide +kernel
theorem dd_N_read_107 : decode b_N_read 107 = .ok (.aload_n 0, 1) := by decide +kernel
theorem dd_N_read_108 : decode b_N_read 108 = .ok (.getfield 27, 3) := by decide +kernel
theorem dd_N_read_111 : decode b_N_read 111 = .ok (.invokevirtual 13, 3) := by decide +kernel
theorem dd_N_read_114 : decode b_N_read 114 = .ok (.bipush 46, 2) := by decide +kernel
theorem dd_N_read_116 : decode b_N_read 116 = .ok (.if_icmp .ne 7, 3) := by decide +kernel
theorem dd_N_read_119 : decode b_N_read 119 = .ok (.iconst 1, 1) := by decide +kernel
theorem dd_N_read_120 : decode b_N_read 120 = .ok (.goto 4, 3) := by decide +kernel
theorem dd_N_read_123 : decode b_N_read 123 = .ok (.iconst 0, 1) := by decide +kernel
theorem dd_N_read_124 : decode b_N_read 124 = .ok (.istore 6, 2) := by decide +kernel
theorem dd_N_read_126 : decode b_N_read 126 = .ok (.aload_n 0, 1) := by decide +kernel
theorem dd_N_read_127 : decode b_N_read 127 = .ok (.iload 6, 2) := by decide +kernel
theorem dd_N_read_129 : decode b_N_read 129 = .ok (.ifCond .eq 12, 3) := by decide +kernel
theorem dd_N_read_132 : decode b_N_read 132 = .ok (.aload_n 0, 1) := by decide +kernel
theorem dd_N_read_133 : decode b_N_read 133 = .ok (.getfield 27, 3) := by decide +kernel
theorem dd_N_read_136 : decode b_N_read 136 = .ok (.iconst 1, 1) := by decide +kernel
theorem dd_N_read_137 : decode b_N_read 137 = .ok (.iadd, 1) := by decide +kernel
theorem dd_N_read_138 : decode b_N_read 138 = .ok (.goto 7, 3) := by decide +kernel
theorem dd_N_read_141 : decode b_N_read 141 = .ok (.aload_n 0, 1) := by decide +kernel
theorem dd_N_read_142 : decode b_N_read 142 = .ok (.getfield 27, 3) := by decide +kernel
theorem dd_N_read_145 : decode b_N_read 145 = .ok (.putfield 30, 3) := by decide +kernel
theorem dd_N_read_148 : decode b_N_read 148 = .ok (.aload_n 0, 1) := by decide +kernel
theorem dd_N_read_149 : decode b_N_read 149 = .ok (.iload 6, 2) := by decide +kernel
theorem dd_N_read_151 : decode b_N_read 151 = .ok (.ifCond .eq 15, 3) := by decide +kernel
theorem dd_N_read_154 : decode b_N_read 154 = .ok (.aload_n 1, 1) := by decide +kernel
theorem dd_N_read_155 : decode b_N_read 155 = .ok (.aload_n 0, 1) := by decide +kernel
theorem dd_N_read_156 : decode b_N_read 156 = .ok (.getfield 30, 3) := by decide +kernel
theorem dd_N_read_159 : decode b_N_read 159 = .ok (.iload_n 3, 1) := by decide +kernel
theorem dd_N_read_160 : decode b_N_read 160 = .ok (.invokevirtual 23, 3) := by decide +kernel
theorem dd_N_read_163 : decode b_N_read 163 = .ok (.goto 7, 3) := by decide +kernel
theorem dd_N_read_166 : decode b_N_read 166 = .ok (.aload_n 0, 1) := by decide +kernel
theorem dd_N_read_167 : decode b_N_read 167 = .ok (.getfield 30, 3) := by decide +kernel
theorem dd_N_read_170 : decode b_N_read 170 = .ok (.putfield 33, 3) := by decide +kernel
theorem dd_N_read_173 : decode b_N_read 173 = .ok (.aload_n 0, 1) := by decide +kernel
theorem dd_N_read_174 : decode b_N_read 174 = .ok (.getfield 33, 3) := by decide +kernel
theorem dd_N_read_177 : decode b_N_read 177 = .ok (.aload_n 0, 1) := by decide +kernel
theorem dd_N_read_178 : decode b_N_read 178 = .ok (.getfield 30, 3) := by decide +kernel
theorem dd_N_read_181 : decode b_N_read 181 = .ok (.if_icmp .le 31, 3) := by decide +kernel
theorem dd_N_read_184 : decode b_N_read 184 = .ok (.aload_n 1, 1) := by decide +kernel
theorem dd_N_read_185 : decode b_N_read 185 = .ok (.aload_n 0, 1) := by decide +kernel
theorem dd_N_read_186 : decode b_N_read 186 = .ok (.getfield 33, 3) := by decide +kernel
theorem dd_N_read_189 : decode b_N_read 189 = .ok (.iconst 1, 1) := by decide +kernel
theorem dd_N_read_190 : decode b_N_read 190 = .ok (.isub, 1) := by decide +kernel
theorem dd_N_read_191 : decode b_N_read 191 = .ok (.invokevirtual 13, 3) := by decide +kernel
theorem dd_N_read_194 : decode b_N_read 194 = .ok (.bipush 48, 2) := by decide +kernel
theorem dd_N_read_196 : decode b_N_read 196 = .ok (.if_icmp .ne 16, 3) := by decide +kernel
theorem dd_N_read_199 : decode b_N_read 199 = .ok (.aload_n 0, 1) := by decide +kernel
theorem dd_N_read_200 : decode b_N_read 200 = .ok (.dup, 1) := by decide +kernel
theorem dd_N_read_201 : decode b_N_read 201 = .ok (.getfield 33, 3) := by decide +kernel
theorem dd_N_read_204 : decode b_N_read 204 = .ok (.iconst 1, 1) := by decide +kernel
theorem dd_N_read_205 : decode b_N_read 205 = .ok (.isub, 1) := by decide +kernel
theorem dd_N_read_206 : decode b_N_read 206 = .ok (.putfield 33, 3) := by decide +kernel
theorem dd_N_read_209 : decode b_N_read 209 = .ok (.goto (-36), 3) := by decide +kernel
theorem dd_N_read_212 : decode b_N_read 212 = .ok (.aload_n 0, 1) := by decide +kernel
theorem dd_N_read_213 : decode b_N_read 213 = .ok (.getfield 17, 3) := by decide +kernel
theorem dd_N_read_216 : decode b_N_read 216 = .ok (.aload_n 0, 1) := by decide +kernel
theorem dd_N_read_217 : decode b_N_read 217 = .ok (.getfield 27, 3) := by decide +kernel
theorem dd_N_read_220 : decode b_N_read 220 = .ok (.if_icmp .ne 18, 3) := by decide +kernel
theorem dd_N_read_223 : decode b_N_read 223 = .ok (.aload_n 0, 1) := by decide +kernel
theorem dd_N_read_224 : decode b_N_read 224 = .ok (.getfield 30, 3) := by decide +kernel
theorem dd_N_read_227 : decode b_N_read 227 = .ok (.aload_n 0, 1) := by decide +kernel
theorem dd_N_read_228 : decode b_N_read 228 = .ok (.getfield 33, 3) := by decide +kernel
theorem dd_N_read_231 : decode b_N_read 231 = .ok (.if_icmp .ne 7, 3) := by decide +kernel
theorem dd_N_read_234 : decode b_N_read 234 = .ok (.iconst 1, 1) := by decide +kernel
theorem dd_N_read_235 : decode b_N_read 235 = .ok (.goto 4, 3) := by decide +kernel
theorem dd_N_read_238 : decode b_N_read 238 = .ok (.iconst 0, 1) := by decide +kernel
theorem dd_N_read_239 : decode b_N_read 239 = .ok (.istore 7, 2) := by decide +kernel
theorem dd_N_read_241 : decode b_N_read 241 = .ok (.aload_n 0, 1) := by decide +kernel
theorem dd_N_read_242 : decode b_N_read 242 = .ok (.iload 7, 2) := by decide +kernel
theorem dd_N_read_244 : decode b_N_read 244 = .ok (.ifCond .eq 7, 3) := by decide +kernel
theorem dd_N_read_247 : decode b_N_read 247 = .ok (.iconst 0, 1) := by decide +kernel
theorem dd_N_read_248 : decode b_N_read 248 = .ok (.goto 13, 3) := by decide +kernel
theorem dd_N_read_251 : decode b_N_read 251 = .ok (.iload 5, 2) := by decide +kernel
theorem dd_N_read_253 : decode b_N_read 253 = .ok (.ifCond .eq 7, 3) := by decide +kernel
theorem dd_N_read_256 : decode b_N_read 256 = .ok (.iconst (-1), 1) := by decide +kernel
theorem dd_N_read_257 : decode b_N_read 257 = .ok (.goto 4, 3) := by decide +kernel
theorem dd_N_read_260 : decode b_N_read 260 = .ok (.iconst 1, 1) := by decide +kernel
theorem dd_N_read_261 : decode b_N_read 261 = .ok (.putfield 36, 3) := by decide +kernel
theorem dd_N_read_264 : decode b_N_read 264 = .ok (.return_, 1) := by decide +kernel
theorem dd_N_wholeLength_0 : decode b_N_wholeLength 0 = .ok (.aload_n 0, 1) := by decide +kernel
theorem dd_N_wholeLength_1 : decode b_N_wholeLength 1 = .ok (.getfield 27, 3) := by decide +kernel
theorem dd_N_wholeLength_4 : decode b_N_wholeLength 4 = .ok (.aload_n 0, 1) := by decide +kernel
theorem dd_N_wholeLength_5 : decode b_N_wholeLength 5 = .ok (.getfield 17, 3) := by decide +kernel
theorem dd_N_wholeLength_8 : decode b_N_wholeLength 8 = .ok (.isub, 1) := by decide +kernel
theorem dd_N_wholeLength_9 : decode b_N_wholeLength 9 = .ok (.ireturn, 1) := by decide +kernel
theorem dd_O_init_0 : decode b_O_init 0 = .ok (.aload_n 0, 1) := by decide +kernel
theorem dd_O_init_1 : decode b_O_init 1 = .ok (.invokespecial 3, 3) := by decide +kernel
theorem dd_O_init_4 : decode b_O_init 4 = .ok (.aload_n 0, 1) := by decide +kernel
theorem dd_O_init_5 : decode b_O_init 5 = .ok (.aload_n 1, 1) := by decide +kernel
theorem dd_O_init_6 : decode b_O_init 6 = .ok (.putfield 9, 3) := by decide +kernel
theorem dd_O_init_9 : decode b_O_init 9 = .ok (.aload_n 0, 1) := by decide +kernel
theorem dd_O_init_10 : decode b_O_init 10 = .ok (.aload_n 2, 1) := by decide +kernel
theorem dd_O_init_11 : decode b_O_init 11 = .ok (.putfield 15, 3) := by decide +kernel
theorem dd_O_init_14 : decode b_O_init 14 = .ok (.aload_n 0, 1) := by decide +kernel
theorem dd_O_init_15 : decode b_O_init 15 = .ok (.new 19, 3) := by decide +kernel
theorem dd_O_init_18 : decode b_O_init 18 = .ok (.dup, 1) := by decide +kernel
theorem dd_O_init_19 : decode b_O_init 19 = .ok (.iconst 1, 1) := by decide +kernel
theorem dd_O_init_20 : decode b_O_init 20 = .ok (.iconst 1, 1) := by decide +kernel
theorem dd_O_init_21 : decode b_O_init 21 = .ok (.iconst 0, 1) := by decide +kernel
theorem dd_O_init_22 : decode b_O_init 22 = .ok (.iconst 0, 1) := by decide +kernel
theorem dd_O_init_23 : decode b_O_init 23 = .ok (.iconst 0, 1) := by decide +kernel
theorem dd_O_init_24 : decode b_O_init 24 = .ok (.invokespecial 21, 3) := by decide +kernel
theorem dd_O_init_27 : decode b_O_init 27 = .ok (.putfield 24, 3) := by decide +kernel
theorem dd_O_init_30 : decode b_O_init 30 = .ok (.aload_n 0, 1) := by decide +kernel
theorem dd_O_init_31 : decode b_O_init 31 = .ok (.bipush 6, 2) := by decide +kernel
theorem dd_O_init_33 : decode b_O_init 33 = .ok (.anewarray 19, 3) := by decide +kernel
theorem dd_O_init_36 : decode b_O_init 36 = .ok (.putfield 28, 3) := by decide +kernel
theorem dd_O_init_39 : decode b_O_init 39 = .ok (.iconst 0, 1) := by decide +kernel
theorem dd_O_init_40 : decode b_O_init 40 = .ok (.istore_n 3, 1) := by decide +kernel
theorem dd_O_init_41 : decode b_O_init 41 = .ok (.iload_n 3, 1) := by decide +kernel
theorem dd_O_init_42 : decode b_O_init 42 = .ok (.bipush 6, 2) := by decide +kernel
theorem dd_O_init_44 : decode b_O_init 44 = .ok (.if_icmp .ge 19, 3) := by decide +kernel
theorem dd_O_init_47 : decode b_O_init 47 = .ok (.aload_n 0, 1) := by decide +kernel
theorem dd_O_init_48 : decode b_O_init 48 = .ok (.getfield 28, 3) := by decide +kernel
theorem dd_O_init_51 : decode b_O_init 51 = .ok (.iload_n 3, 1) := by decide +kernel
theorem dd_O_init_52 : decode b_O_init 52 = .ok (.aload_n 0, 1) := by decide +kernel
theorem dd_O_init_53 : decode b_O_init 53 = .ok (.getfield 24, 3) := by decide +kernel
theorem dd_O_init_56 : decode b_O_init 56 = .ok (.aastore, 1) := by decide +kernel
theorem dd_O_init_57 : decode b_O_init 57 = .ok (.iinc 3 1, 3) := by decide +kernel
theorem dd_O_init_60 : decode b_O_init 60 = .ok (.goto (-19), 3) := by decide +kernel
theorem dd_O_init_63 : decode b_O_init 63 = .ok (.aload_n 0, 1) := by decide +kernel
theorem dd_O_init_64 : decode b_O_init 64 = .ok (.new 32, 3) := by decide +kernel
theorem dd_O_init_67 : decode b_O_init 67 = .ok (.dup, 1) := by decide +kernel
theorem dd_O_init_68 : decode b_O_init 68 = .ok (.invokespecial 34, 3) := by decide +kernel
theorem dd_O_init_71 : decode b_O_init 71 = .ok (.putfield 35, 3) := by decide +kernel
theorem dd_O_init_74 : decode b_O_init 74 = .ok (.aload_n 0, 1) := by decide +kernel
theorem dd_O_init_75 : decode b_O_init 75 = .ok (.new 32, 3) := by decide +kernel
theorem dd_O_init_78 : decode b_O_init 78 = .ok (.dup, 1) := by decide +kernel
theorem dd_O_init_79 : decode b_O_init 79 = .ok (.invokespecial 34, 3) := by decide +kernel
theorem dd_O_init_82 : decode b_O_init 82 = .ok (.putfield 39, 3) := by decide +kernel
theorem dd_O_init_85 : decode b_O_init 85 = .ok (.aload_n 0, 1) := by decide +kernel
theorem dd_O_init_86 : decode b_O_init 86 = .ok (.iconst 0, 1) := by decide +kernel
theorem dd_O_init_87 : decode b_O_init 87 = .ok (.putfield 42, 3) := by decide +kernel
theorem dd_O_init_90 : decode b_O_init 90 = .ok (.aload_n 0, 1) := by decide +kernel
theorem dd_O_init_91 : decode b_O_init 91 = .ok (.iconst 0, 1) := by decide +kernel
theorem dd_O_init_92 : decode b_O_init 92 = .ok (.putfield 46, 3) := by decide +kernel
theorem dd_O_init_95 : decode b_O_init 95 = .ok (.aload_n 0, 1) := by decide +kernel
theorem dd_O_init_96 : decode b_O_init 96 = .ok (.iconst 0, 1) := by decide +kernel
theorem dd_O_init_97 : decode b_O_init 97 = .ok (.putfield 49, 3) := by decide +kernel
theorem dd_O_init_100 : decode b_O_init 100 = .ok (.aload_n 0, 1) := by decide +kernel
theorem dd_O_init_101 : decode b_O_init 101 = .ok (.iconst 0, 1) := by decide +kernel
theorem dd_O_init_102 : decode b_O_init 102 = .ok (.putfield 53, 3) := by decide +kernel
theorem dd_O_init_105 : decode b_O_init 105 = .ok (.return_, 1) := by decide +kernel
theorem dd_O_addKey_0 : decode b_O_addKey 0 = .ok (.aload_n 0, 1) := by decide +kernel
theorem dd_O_addKey_1 : decode b_O_addKey 1 = .ok (.getfield 42, 3) := by decide +kernel
theorem dd_O_addKey_4 : decode b_O_addKey 4 = .ok (.bipush 6, 2) := by decide +kernel
theorem dd_O_addKey_6 : decode b_O_addKey 6 = .ok (.if_icmp .ge 23, 3) := by decide +kernel
theorem dd_O_addKey_9 : decode b_O_addKey 9 = .ok (.aload_n 0, 1) := by decide +kernel
theorem dd_O_addKey_10 : decode b_O_addKey 10 = .ok (.getfield 28, 3) := by decide +kernel
theorem dd_O_addKey_13 : decode b_O_addKey 13 = .ok (.aload_n 0, 1) := by decide +kernel
theorem dd_O_addKey_14 : decode b_O_addKey 14 = .ok (.getfield 42, 3) := by decide +kernel
theorem dd_O_addKey_17 : decode b_O_addKey 17 = .ok (.aload_n 1, 1) := by decide +kernel
theorem dd_O_addKey_18 : decode b_O_addKey 18 = .ok (.aastore, 1) := by decide +kernel
theorem dd_O_addKey_19 : decode b_O_addKey 19 = .ok (.aload_n 0, 1) := by decide +kernel
theorem dd_O_addKey_20 : decode b_O_addKey 20 = .ok (.dup, 1) := by decide +kernel
theorem dd_O_addKey_21 : decode b_O_addKey 21 = .ok (.getfield 42, 3) := by decide +kernel
theorem dd_O_addKey_24 : decode b_O_addKey 24 = .ok (.iconst 1, 1) := by decide +kernel
theorem dd_O_addKey_25 : decode b_O_addKey 25 = .ok (.iadd, 1) := by decide +kernel
theorem dd_O_addKey_26 : decode b_O_addKey 26 = .ok (.putfield 42, 3) := by decide +kernel
theorem dd_O_addKey_29 : decode b_O_addKey 29 = .ok (.return_, 1) := by decide +kernel
theorem dd_O_keysInUse_0 : decode b_O_keysInUse 0 = .ok (.iconst 1, 1) := by decide +kernel
theorem dd_O_keysInUse_1 : decode b_O_keysInUse 1 = .ok (.aload_n 0, 1) := by decide +kernel
theorem dd_O_keysInUse_2 : decode b_O_keysInUse 2 = .ok (.getfield 42, 3) := by decide +kernel
theorem dd_O_keysInUse_5 : decode b_O_keysInUse 5 = .ok (.invokestatic 56, 3) := by decide +kernel
theorem dd_O_keysInUse_8 : decode b_O_keysInUse 8 = .ok (.ireturn, 1) := by decide +kernel
theorem dd_O_keyInUse_0 : decode b_O_keyInUse 0 = .ok (.iload_n 1, 1) := by decide +kernel
theorem dd_O_keyInUse_1 : decode b_O_keyInUse 1 = .ok (.aload_n 0, 1) := by decide +kernel
theorem dd_O_keyInUse_2 : decode b_O_keyInUse 2 = .ok (.getfield 42, 3) := by decide +kernel
theorem dd_O_keyInUse_5 : decode b_O_keyInUse 5 = .ok (.if_icmp .ge 12, 3) := by decide +kernel
theorem dd_O_keyInUse_8 : decode b_O_keyInUse 8 = .ok (.aload_n 0, 1) := by decide +kernel
theorem dd_O_keyInUse_9 : decode b_O_keyInUse 9 = .ok (.getfield 28, 3) := by decide +kernel
theorem dd_O_keyInUse_12 : decode b_O_keyInUse 12 = .ok (.iload_n 1, 1) := by decide +kernel
theorem dd_O_keyInUse_13 : decode b_O_keyInUse 13 = .ok (.aaload, 1) := by decide +kernel
theorem dd_O_keyInUse_14 : decode b_O_keyInUse 14 = .ok (.goto 7, 3) := by decide +kernel
theorem dd_O_keyInUse_17 : decode b_O_keyInUse 17 = .ok (.aload_n 0, 1) := by decide +kernel
theorem dd_O_keyInUse_18 : decode b_O_keyInUse 18 = .ok (.getfield 24, 3) := by decide +kernel
theorem dd_O_keyInUse_21 : decode b_O_keyInUse 21 = .ok (.areturn, 1) := by decide +kernel
theorem dd_O_flagsOf_0 : decode b_O_flagsOf 0 = .ok (.aload_n 1, 1) := by decide +kernel
theorem dd_O_flagsOf_1 : decode b_O_flagsOf 1 = .ok (.getfield 62, 3) := by decide +kernel
theorem dd_O_flagsOf_4 : decode b_O_flagsOf 4 = .ok (.ifCond .ne 10, 3) := by decide +kernel
theorem dd_O_flagsOf_7 : decode b_O_flagsOf 7 = .ok (.aload_n 0, 1) := by decide +kernel
theorem dd_O_flagsOf_8 : decode b_O_flagsOf 8 = .ok (.getfield 46, 3) := by decide +kernel
theorem dd_O_flagsOf_11 : decode b_O_flagsOf 11 = .ok (.goto 7, 3) := by decide +kernel
theorem dd_O_flagsOf_14 : decode b_O_flagsOf 14 = .ok (.aload_n 1, 1) := by decide +kernel
theorem dd_O_flagsOf_15 : decode b_O_flagsOf 15 = .ok (.getfield 62, 3) := by decide +kernel
theorem dd_O_flagsOf_18 : decode b_O_flagsOf 18 = .ok (.ireturn, 1) := by decide +kernel
theorem dd_O_comparedNumbersAside_0 : decode b_O_comparedNumbersAside 0 = .ok (.aload_n 0, 1) := by decide +kernel
theorem dd_O_comparedNumbersAside_1 : decode b_O_comparedNumbersAside 1 = .ok (.iload_n 1, 1) := by decide +kernel
theorem dd_O_comparedNumbersAside_2 : decode b_O_comparedNumbersAside 2 = .ok (.iload_n 2, 1) := by decide +kernel
theorem dd_O_comparedNumbersAside_3 : decode b_O_comparedNumbersAside 3 = .ok (.invokevirtual 65, 3) := by decide +kernel
theorem dd_O_comparedNumbersAside_6 : decode b_O_comparedNumbersAside 6 = .ok (.istore_n 3, 1) := by decide +kernel
theorem dd_O_comparedNumbersAside_7 : decode b_O_comparedNumbersAside 7 = .ok (.iload_n 3, 1) := by decide +kernel
theorem dd_O_comparedNumbersAside_8 : decode b_O_comparedNumbersAside 8 = .ok (.ifCond .ne 17, 3) := by decide +kernel
theorem dd_O_comparedNumbersAside_11 : decode b_O_comparedNumbersAside 11 = .ok (.aload_n 0, 1) := by decide +kernel
theorem dd_O_comparedNumbersAside_12 : decode b_O_comparedNumbersAside 12 = .ok (.getfield 49, 3) := by decide +kernel
theorem dd_O_comparedNumbersAside_15 : decode b_O_comparedNumbersAside 15 = .ok (.ifCond .ne 10, 3) := by decide +kernel
theorem dd_O_comparedNumbersAside_18 : decode b_O_comparedNumbersAside 18 = .ok (.aload_n 0, 1) := by decide +kernel
theorem dd_O_comparedNumbersAside_19 : decode b_O_comparedNumbersAside 19 = .ok (.getfield 53, 3) := by decide +kernel
theorem dd_O_comparedNumbersAside_22 : decode b_O_comparedNumbersAside 22 = .ok (.ifCond .eq 5, 3) := by decide +kernel
theorem dd_O_comparedNumbersAside_25 : decode b_O_comparedNumbersAside 25 = .ok (.iload_n 3, 1) := by decide +kernel
theorem dd_O_comparedNumbersAside_26 : decode b_O_comparedNumbersAside 26 = .ok (.ireturn, 1) := by decide +kernel
theorem dd_O_comparedNumbersAside_27 : decode b_O_comparedNumbersAside 27 = .ok (.aload_n 0, 1) := by decide +kernel
theorem dd_O_comparedNumbersAside_28 : decode b_O_comparedNumbersAside 28 = .ok (.getfield 9, 3) := by decide +kernel
theorem dd_O_comparedNumbersAside_31 : decode b_O_comparedNumbersAside 31 = .ok (.aload_n 0, 1) := by decide +kernel
theorem dd_O_comparedNumbersAside_32 : decode b_O_comparedNumbersAside 32 = .ok (.getfield 9, 3) := by decide +kernel
theorem dd_O_comparedNumbersAside_35 : decode b_O_comparedNumbersAside 35 = .ok (.iload_n 1, 1) := by decide +kernel
theorem dd_O_comparedNumbersAside_36 : decode b_O_comparedNumbersAside 36 = .ok (.invokevirtual 68, 3) := by decide +kernel
theorem dd_O_comparedNumbersAside_39 : decode b_O_comparedNumbersAside 39 = .ok (.aload_n 0, 1) := by decide +kernel
theorem dd_O_comparedNumbersAside_40 : decode b_O_comparedNumbersAside 40 = .ok (.getfield 9, 3) := by decide +kernel
theorem dd_O_comparedNumbersAside_43 : decode b_O_comparedNumbersAside 43 = .ok (.iload_n 1, 1) := by decide +kernel
theorem dd_O_comparedNumbersAside_44 : decode b_O_comparedNumbersAside 44 = .ok (.invokevirtual 74, 3) := by decide +kernel
theorem dd_O_comparedNumbersAside_47 : decode b_O_comparedNumbersAside 47 = .ok (.aload_n 0, 1) := by decide +kernel
theorem dd_O_comparedNumbersAside_48 : decode b_O_comparedNumbersAside 48 = .ok (.getfield 9, 3) := by decide +kernel
theorem dd_O_comparedNumbersAside_51 : decode b_O_comparedNumbersAside 51 = .ok (.iload_n 2, 1) := by decide +kernel
theorem dd_O_comparedNumbersAside_52 : decode b_O_comparedNumbersAside 52 = .ok (.invokevirtual 68, 3) := by decide +kernel
theorem dd_O_comparedNumbersAside_55 : decode b_O_comparedNumbersAside 55 = .ok (.aload_n 0, 1) := by decide +kernel
theorem dd_O_comparedNumbersAside_56 : decode b_O_comparedNumbersAside 56 = .ok (.getfield 9, 3) := by decide +kernel
theorem dd_O_comparedNumbersAside_59 : decode b_O_comparedNumbersAside 59 = .ok (.iload_n 2, 1) := by decide +kernel
theorem dd_O_comparedNumbersAside_60 : decode b_O_comparedNumbersAside 60 = .ok (.invokevirtual 74, 3) := by decide +kernel
theorem dd_O_comparedNumbersAside_63 : decode b_O_comparedNumbersAside 63 = .ok (.iconst 0, 1) := by decide +kernel
theorem dd_O_comparedNumbersAside_64 : decode b_O_comparedNumbersAside 64 = .ok (.invokevirtual 77, 3) := by decide +kernel
theorem dd_O_comparedNumbersAside_67 : decode b_O_comparedNumbersAside 67 = .ok (.istore 4, 2) := by decide +kernel
theorem dd_O_comparedNumbersAside_69 : decode b_O_comparedNumbersAside 69 = .ok (.aload_n 0, 1) := by decide +kernel
theorem dd_O_comparedNumbersAside_70 : decode b_O_comparedNumbersAside 70 = .ok (.getfield 46, 3) := by decide +kernel
theorem dd_O_comparedNumbersAside_73 : decode b_O_comparedNumbersAside 73 = .ok (.bipush 32, 2) := by decide +kernel
theorem dd_O_comparedNumbersAside_75 : decode b_O_comparedNumbersAside 75 = .ok (.iand, 1) := by decide +kernel
theorem dd_O_comparedNumbersAside_76 : decode b_O_comparedNumbersAside 76 = .ok (.ifCond .eq 9, 3) := by decide +kernel
theorem dd_O_comparedNumbersAside_79 : decode b_O_comparedNumbersAside 79 = .ok (.iload 4, 2) := by decide +kernel
theorem dd_O_comparedNumbersAside_81 : decode b_O_comparedNumbersAside 81 = .ok (.ineg, 1) := by decide +kernel
theorem dd_O_comparedNumbersAside_82 : decode b_O_comparedNumbersAside 82 = .ok (.goto 5, 3) := by decide +kernel
theorem dd_O_comparedNumbersAside_85 : decode b_O_comparedNumbersAside 85 = .ok (.iload 4, 2) := by decide +kernel
theorem dd_O_comparedNumbersAside_87 : decode b_O_comparedNumbersAside 87 = .ok (.ireturn, 1) := by decide +kernel
theorem dd_O_comparedByKeys_0 : decode b_O_comparedByKeys 0 = .ok (.aload_n 0, 1) := by decide +kernel
theorem dd_O_comparedByKeys_1 : decode b_O_comparedByKeys 1 = .ok (.invokevirtual 81, 3) := by decide +kernel
theorem dd_O_comparedByKeys_4 : decode b_O_comparedByKeys 4 = .ok (.istore_n 3, 1) := by decide +kernel
theorem dd_O_comparedByKeys_5 : decode b_O_comparedByKeys 5 = .ok (.iconst 0, 1) := by decide +kernel
theorem dd_O_comparedByKeys_6 : decode b_O_comparedByKeys 6 = .ok (.istore 4, 2) := by decide +kernel
theorem dd_O_comparedByKeys_8 : decode b_O_comparedByKeys 8 = .ok (.iload 4, 2) := by decide +kernel
theorem dd_O_comparedByKeys_10 : decode b_O_comparedByKeys 10 = .ok (.iload_n 3, 1) := by decide +kernel
theorem dd_O_comparedByKeys_11 : decode b_O_comparedByKeys 11 = .ok (.if_icmp .ge 145, 3) := by decide +kernel
theorem dd_O_comparedByKeys_14 : decode b_O_comparedByKeys 14 = .ok (.aload_n 0, 1) := by decide +kernel
theorem dd_O_comparedByKeys_15 : decode b_O_comparedByKeys 15 = .ok (.iload 4, 2) := by decide +kernel
theorem dd_O_comparedByKeys_17 : decode b_O_comparedByKeys 17 = .ok (.invokevirtual 85, 3) := by decide +kernel
theorem dd_O_comparedByKeys_20 : decode b_O_comparedByKeys 20 = .ok (.astore 5, 2) := by decide +kernel
theorem dd_O_comparedByKeys_22 : decode b_O_comparedByKeys 22 = .ok (.aload_n 0, 1) := by decide +kernel
theorem dd_O_comparedByKeys_23 : decode b_O_comparedByKeys 23 = .ok (.aload 5, 2) := by decide +kernel
theorem dd_O_comparedByKeys_25 : decode b_O_comparedByKeys 25 = .ok (.invokevirtual 89, 3) := by decide +kernel
theorem dd_O_comparedByKeys_28 : decode b_O_comparedByKeys 28 = .ok (.istore 6, 2) := by decide +kernel
theorem dd_O_comparedByKeys_30 : decode b_O_comparedByKeys 30 = .ok (.aload_n 0, 1) := by decide +kernel
theorem dd_O_comparedByKeys_31 : decode b_O_comparedByKeys 31 = .ok (.getfield 15, 3) := by decide +kernel
theorem dd_O_comparedByKeys_34 : decode b_O_comparedByKeys 34 = .ok (.aload 5, 2) := by decide +kernel
theorem dd_O_comparedByKeys_36 : decode b_O_comparedByKeys 36 = .ok (.iload 6, 2) := by decide +kernel
theorem dd_O_comparedByKeys_38 : decode b_O_comparedByKeys 38 = .ok (.iload_n 1, 1) := by decide +kernel
theorem dd_O_comparedByKeys_39 : decode b_O_comparedByKeys 39 = .ok (.invokevirtual 93, 3) := by decide +kernel
theorem dd_O_comparedByKeys_42 : decode b_O_comparedByKeys 42 = .ok (.istore 7, 2) := by decide +kernel
theorem dd_O_comparedByKeys_44 : decode b_O_comparedByKeys 44 = .ok (.aload_n 0, 1) := by decide +kernel
theorem dd_O_comparedByKeys_45 : decode b_O_comparedByKeys 45 = .ok (.getfield 15, 3) := by decide +kernel
theorem dd_O_comparedByKeys_48 : decode b_O_comparedByKeys 48 = .ok (.aload 5, 2) := by decide +kernel
theorem dd_O_comparedByKeys_50 : decode b_O_comparedByKeys 50 = .ok (.iload 6, 2) := by decide +kernel
theorem dd_O_comparedByKeys_52 : decode b_O_comparedByKeys 52 = .ok (.iload_n 1, 1) := by decide +kernel
theorem dd_O_comparedByKeys_53 : decode b_O_comparedByKeys 53 = .ok (.invokevirtual 99, 3) := by decide +kernel
theorem dd_O_comparedByKeys_56 : decode b_O_comparedByKeys 56 = .ok (.istore 8, 2) := by decide +kernel
theorem dd_O_comparedByKeys_58 : decode b_O_comparedByKeys 58 = .ok (.aload_n 0, 1) := by decide +kernel
theorem dd_O_comparedByKeys_59 : decode b_O_comparedByKeys 59 = .ok (.getfield 15, 3) := by decide +kernel
theorem dd_O_comparedByKeys_62 : decode b_O_comparedByKeys 62 = .ok (.aload 5, 2) := by decide +kernel
theorem dd_O_comparedByKeys_64 : decode b_O_comparedByKeys 64 = .ok (.iload 6, 2) := by decide +kernel
theorem dd_O_comparedByKeys_66 : decode b_O_comparedByKeys 66 = .ok (.iload_n 2, 1) := by decide +kernel
theorem dd_O_comparedByKeys_67 : decode b_O_comparedByKeys 67 = .ok (.invokevirtual 93, 3) := by decide +kernel
theorem dd_O_comparedByKeys_70 : decode b_O_comparedByKeys 70 = .ok (.istore 9, 2) := by decide +kernel
theorem dd_O_comparedByKeys_72 : decode b_O_comparedByKeys 72 = .ok (.aload_n 0, 1) := by decide +kernel
theorem dd_O_comparedByKeys_73 : decode b_O_comparedByKeys 73 = .ok (.getfield 15, 3) := by decide +kernel
theorem dd_O_comparedByKeys_76 : decode b_O_comparedByKeys 76 = .ok (.aload 5, 2) := by decide +kernel
theorem dd_O_comparedByKeys_78 : decode b_O_comparedByKeys 78 = .ok (.iload 6, 2) := by decide +kernel
theorem dd_O_comparedByKeys_80 : decode b_O_comparedByKeys 80 = .ok (.iload_n 2, 1) := by decide +kernel
theorem dd_O_comparedByKeys_81 : decode b_O_comparedByKeys 81 = .ok (.invokevirtual 99, 3) := by decide +kernel
theorem dd_O_comparedByKeys_84 : decode b_O_comparedByKeys 84 = .ok (.istore 10, 2) := by decide +kernel
theorem dd_O_comparedByKeys_86 : decode b_O_comparedByKeys 86 = .ok (.iload 6, 2) := by decide +kernel
theorem dd_O_comparedByKeys_88 : decode b_O_comparedByKeys 88 = .ok (.bipush 16, 2) := by decide +kernel
theorem dd_O_comparedByKeys_90 : decode b_O_comparedByKeys 90 = .ok (.iand, 1) := by decide +kernel
theorem dd_O_comparedByKeys_91 : decode b_O_comparedByKeys 91 = .ok (.ifCond .eq 18, 3) := by decide +kernel
theorem dd_O_comparedByKeys_94 : decode b_O_comparedByKeys 94 = .ok (.aload_n 0, 1) := by decide +kernel
theorem dd_O_comparedByKeys_95 : decode b_O_comparedByKeys 95 = .ok (.iload 7, 2) := by decide +kernel
theorem dd_O_comparedByKeys_97 : decode b_O_comparedByKeys 97 = .ok (.iload 8, 2) := by decide +kernel
theorem dd_O_comparedByKeys_99 : decode b_O_comparedByKeys 99 = .ok (.iload 9, 2) := by decide +kernel
theorem dd_O_comparedByKeys_101 : decode b_O_comparedByKeys 101 = .ok (.iload 10, 2) := by decide +kernel
theorem dd_O_comparedByKeys_103 : decode b_O_comparedByKeys 103 = .ok (.invokevirtual 102, 3) := by decide +kernel
theorem dd_O_comparedByKeys_106 : decode b_O_comparedByKeys 106 = .ok (.goto 20, 3) := by decide +kernel
theorem dd_O_comparedByKeys_109 : decode b_O_comparedByKeys 109 = .ok (.aload_n 0, 1) := by decide +kernel
theorem dd_O_comparedByKeys_110 : decode b_O_comparedByKeys 110 = .ok (.getfield 9, 3) := by decide +kernel
theorem dd_O_comparedByKeys_113 : decode b_O_comparedByKeys 113 = .ok (.iload 7, 2) := by decide +kernel
theorem dd_O_comparedByKeys_115 : decode b_O_comparedByKeys 115 = .ok (.iload 8, 2) := by decide +kernel
theorem dd_O_comparedByKeys_117 : decode b_O_comparedByKeys 117 = .ok (.iload 9, 2) := by decide +kernel
theorem dd_O_comparedByKeys_119 : decode b_O_comparedByKeys 119 = .ok (.iload 10, 2) := by decide +kernel
theorem dd_O_comparedByKeys_121 : decode b_O_comparedByKeys 121 = .ok (.iload 6, 2) := by decide +kernel
theorem dd_O_comparedByKeys_123 : decode b_O_comparedByKeys 123 = .ok (.invokevirtual 77, 3) := by decide +kernel
theorem dd_O_comparedByKeys_126 : decode b_O_comparedByKeys 126 = .ok (.istore 11, 2) := by decide +kernel
theorem dd_O_comparedByKeys_128 : decode b_O_comparedByKeys 128 = .ok (.iload 11, 2) := by decide +kernel
theorem dd_O_comparedByKeys_130 : decode b_O_comparedByKeys 130 = .ok (.ifCond .eq 20, 3) := by decide +kernel
theorem dd_O_comparedByKeys_133 : decode b_O_comparedByKeys 133 = .ok (.iload 6, 2) := by decide +kernel
theorem dd_O_comparedByKeys_135 : decode b_O_comparedByKeys 135 = .ok (.bipush 32, 2) := by decide +kernel
theorem dd_O_comparedByKeys_137 : decode b_O_comparedByKeys 137 = .ok (.iand, 1) := by decide +kernel
theorem dd_O_comparedByKeys_138 : decode b_O_comparedByKeys 138 = .ok (.ifCond .eq 9, 3) := by decide +kernel
theorem dd_O_comparedByKeys_141 : decode b_O_comparedByKeys 141 = .ok (.iload 11, 2) := by decide +kernel
theorem dd_O_comparedByKeys_143 : decode b_O_comparedByKeys 143 = .ok (.ineg, 1) := by decide +kernel
theorem dd_O_comparedByKeys_144 : decode b_O_comparedByKeys 144 = .ok (.goto 5, 3) := by decide +kernel
theorem dd_O_comparedByKeys_147 : decode b_O_comparedByKeys 147 = .ok (.iload 11, 2) := by decide +kernel
theorem dd_O_comparedByKeys_149 : decode b_O_comparedByKeys 149 = .ok (.ireturn, 1) := by decide +kernel
theorem dd_O_comparedByKeys_150 : decode b_O_comparedByKeys 150 = .ok (.iinc 4 1, 3) := by decide +kernel
theorem dd_O_comparedByKeys_153 : decode b_O_comparedByKeys 153 = .ok (.goto (-145), 3) := by decide +kernel
theorem dd_O_comparedByKeys_156 : decode b_O_comparedByKeys 156 = .ok (.iconst 0, 1) := by decide +kernel
theorem dd_O_comparedByKeys_157 : decode b_O_comparedByKeys 157 = .ok (.ireturn, 1) := by decide +kernel
theorem dd_O_comparedAsNumbers_0 : decode b_O_comparedAsNumbers 0 = .ok (.aload_n 0, 1) := by decide +kernel
theorem dd_O_comparedAsNumbers_1 : decode b_O_comparedAsNumbers 1 = .ok (.getfield 35, 3) := by decide +kernel
theorem dd_O_comparedAsNumbers_4 : decode b_O_comparedAsNumbers 4 = .ok (.aload_n 0, 1) := by decide +kernel
theorem dd_O_comparedAsNumbers_5 : decode b_O_comparedAsNumbers 5 = .ok (.getfield 9, 3) := by decide +kernel
theorem dd_O_comparedAsNumbers_8 : decode b_O_comparedAsNumbers 8 = .ok (.iload_n 1, 1) := by decide +kernel
theorem dd_O_comparedAsNumbers_9 : decode b_O_comparedAsNumbers 9 = .ok (.iload_n 2, 1) := by decide +kernel
theorem dd_O_comparedAsNumbers_10 : decode b_O_comparedAsNumbers 10 = .ok (.invokevirtual 106, 3) := by decide +kernel
theorem dd_O_comparedAsNumbers_13 : decode b_O_comparedAsNumbers 13 = .ok (.aload_n 0, 1) := by decide +kernel
theorem dd_O_comparedAsNumbers_14 : decode b_O_comparedAsNumbers 14 = .ok (.getfield 39, 3) := by decide +kernel
theorem dd_O_comparedAsNumbers_17 : decode b_O_comparedAsNumbers 17 = .ok (.aload_n 0, 1) := by decide +kernel
theorem dd_O_comparedAsNumbers_18 : decode b_O_comparedAsNumbers 18 = .ok (.getfield 9, 3) := by decide +kernel
theorem dd_O_comparedAsNumbers_21 : decode b_O_comparedAsNumbers 21 = .ok (.iload_n 3, 1) := by decide +kernel
theorem dd_O_comparedAsNumbers_22 : decode b_O_comparedAsNumbers 22 = .ok (.iload 4, 2) := by decide +kernel
theorem dd_O_comparedAsNumbers_24 : decode b_O_comparedAsNumbers 24 = .ok (.invokevirtual 106, 3) := by decide +kernel
theorem dd_O_comparedAsNumbers_27 : decode b_O_comparedAsNumbers 27 = .ok (.aload_n 0, 1) := by decide +kernel
theorem dd_O_comparedAsNumbers_28 : decode b_O_comparedAsNumbers 28 = .ok (.getfield 35, 3) := by decide +kernel
theorem dd_O_comparedAsNumbers_31 : decode b_O_comparedAsNumbers 31 = .ok (.getfield 110, 3) := by decide +kernel
theorem dd_O_comparedAsNumbers_34 : decode b_O_comparedAsNumbers 34 = .ok (.aload_n 0, 1) := by decide +kernel
theorem dd_O_comparedAsNumbers_35 : decode b_O_comparedAsNumbers 35 = .ok (.getfield 39, 3) := by decide +kernel
theorem dd_O_comparedAsNumbers_38 : decode b_O_comparedAsNumbers 38 = .ok (.getfield 110, 3) := by decide +kernel
theorem dd_O_comparedAsNumbers_41 : decode b_O_comparedAsNumbers 41 = .ok (.if_icmp .eq 21, 3) := by decide +kernel
theorem dd_O_comparedAsNumbers_44 : decode b_O_comparedAsNumbers 44 = .ok (.aload_n 0, 1) := by decide +kernel
theorem dd_O_comparedAsNumbers_45 : decode b_O_comparedAsNumbers 45 = .ok (.getfield 35, 3) := by decide +kernel
theorem dd_O_comparedAsNumbers_48 : decode b_O_comparedAsNumbers 48 = .ok (.getfield 110, 3) := by decide +kernel
theorem dd_O_comparedAsNumbers_51 : decode b_O_comparedAsNumbers 51 = .ok (.aload_n 0, 1) := by decide +kernel
theorem dd_O_comparedAsNumbers_52 : decode b_O_comparedAsNumbers 52 = .ok (.getfield 39, 3) := by decide +kernel
theorem dd_O_comparedAsNumbers_55 : decode b_O_comparedAsNumbers 55 = .ok (.getfield 110, 3) := by decide +kernel
theorem dd_O_comparedAsNumbers_58 : decode b_O_comparedAsNumbers 58 = .ok (.invokestatic 113, 3) := by decide +kernel
theorem dd_O_comparedAsNumbers_61 : decode b_O_comparedAsNumbers 61 = .ok (.ireturn, 1) := by decide +kernel
theorem dd_O_comparedAsNumbers_62 : decode b_O_comparedAsNumbers 62 = .ok (.aload_n 0, 1) := by decide +kernel
theorem dd_O_comparedAsNumbers_63 : decode b_O_comparedAsNumbers 63 = .ok (.getfield 35, 3) := by decide +kernel
theorem dd_O_comparedAsNumbers_66 : decode b_O_comparedAsNumbers 66 = .ok (.invokevirtual 118, 3) := by decide +kernel
theorem dd_O_comparedAsNumbers_69 : decode b_O_comparedAsNumbers 69 = .ok (.aload_n 0, 1) := by decide +kernel
theorem dd_O_comparedAsNumbers_70 : decode b_O_comparedAsNumbers 70 = .ok (.getfield 39, 3) := by decide +kernel
theorem dd_O_comparedAsNumbers_73 : decode b_O_comparedAsNumbers 73 = .ok (.invokevirtual 118, 3) := by decide +kernel
theorem dd_O_comparedAsNumbers_76 : decode b_O_comparedAsNumbers 76 = .ok (.invokestatic 113, 3) := by decide +kernel
theorem dd_O_comparedAsNumbers_79 : decode b_O_comparedAsNumbers 79 = .ok (.istore 5, 2) := by decide +kernel
theorem dd_O_comparedAsNumbers_81 : decode b_O_comparedAsNumbers 81 = .ok (.iload 5, 2) := by decide +kernel
theorem dd_O_comparedAsNumbers_83 : decode b_O_comparedAsNumbers 83 = .ok (.ifCond .ne 41, 3) := by decide +kernel
theorem dd_O_comparedAsNumbers_86 : decode b_O_comparedAsNumbers 86 = .ok (.aload_n 0, 1) := by decide +kernel
theorem dd_O_comparedAsNumbers_87 : decode b_O_comparedAsNumbers 87 = .ok (.getfield 9, 3) := by decide +kernel
theorem dd_O_comparedAsNumbers_90 : decode b_O_comparedAsNumbers 90 = .ok (.aload_n 0, 1) := by decide +kernel
theorem dd_O_comparedAsNumbers_91 : decode b_O_comparedAsNumbers 91 = .ok (.getfield 35, 3) := by decide +kernel
theorem dd_O_comparedAsNumbers_94 : decode b_O_comparedAsNumbers 94 = .ok (.getfield 121, 3) := by decide +kernel
theorem dd_O_comparedAsNumbers_97 : decode b_O_comparedAsNumbers 97 = .ok (.aload_n 0, 1) := by decide +kernel
theorem dd_O_comparedAsNumbers_98 : decode b_O_comparedAsNumbers 98 = .ok (.getfield 35, 3) := by decide +kernel
theorem dd_O_comparedAsNumbers_101 : decode b_O_comparedAsNumbers 101 = .ok (.getfield 124, 3) := by decide +kernel
theorem dd_O_comparedAsNumbers_104 : decode b_O_comparedAsNumbers 104 = .ok (.aload_n 0, 1) := by decide +kernel
theorem dd_O_comparedAsNumbers_105 : decode b_O_comparedAsNumbers 105 = .ok (.getfield 39, 3) := by decide +kernel
theorem dd_O_comparedAsNumbers_108 : decode b_O_comparedAsNumbers 108 = .ok (.getfield 121, 3) := by decide +kernel
theorem dd_O_comparedAsNumbers_111 : decode b_O_comparedAsNumbers 111 = .ok (.aload_n 0, 1) := by decide +kernel
theorem dd_O_comparedAsNumbers_112 : decode b_O_comparedAsNumbers 112 = .ok (.getfield 39, 3) := by decide +kernel
theorem dd_O_comparedAsNumbers_115 : decode b_O_comparedAsNumbers 115 = .ok (.getfield 124, 3) := by decide +kernel
theorem dd_O_comparedAsNumbers_118 : decode b_O_comparedAsNumbers 118 = .ok (.iconst 0, 1) := by decide +kernel
theorem dd_O_comparedAsNumbers_119 : decode b_O_comparedAsNumbers 119 = .ok (.invokevirtual 77, 3) := by decide +kernel
theorem dd_O_comparedAsNumbers_122 : decode b_O_comparedAsNumbers 122 = .ok (.istore 5, 2) := by decide +kernel
theorem dd_O_comparedAsNumbers_124 : decode b_O_comparedAsNumbers 124 = .ok (.iload 5, 2) := by decide +kernel
theorem dd_O_comparedAsNumbers_126 : decode b_O_comparedAsNumbers 126 = .ok (.ifCond .ne 41, 3) := by decide +kernel
theorem dd_O_comparedAsNumbers_129 : decode b_O_comparedAsNumbers 129 = .ok (.aload_n 0, 1) := by decide +kernel
theorem dd_O_comparedAsNumbers_130 : decode b_O_comparedAsNumbers 130 = .ok (.getfield 9, 3) := by decide +kernel
theorem dd_O_comparedAsNumbers_133 : decode b_O_comparedAsNumbers 133 = .ok (.aload_n 0, 1) := by decide +kernel
theorem dd_O_comparedAsNumbers_134 : decode b_O_comparedAsNumbers 134 = .ok (.getfield 35, 3) := by decide +kernel
theorem dd_O_comparedAsNumbers_137 : decode b_O_comparedAsNumbers 137 = .ok (.getfield 127, 3) := by decide +kernel
theorem dd_O_comparedAsNumbers_140 : decode b_O_comparedAsNumbers 140 = .ok (.aload_n 0, 1) := by decide +kernel
theorem dd_O_comparedAsNumbers_141 : decode b_O_comparedAsNumbers 141 = .ok (.getfield 35, 3) := by decide +kernel
theorem dd_O_comparedAsNumbers_144 : decode b_O_comparedAsNumbers 144 = .ok (.getfield 130, 3) := by decide +kernel
theorem dd_O_comparedAsNumbers_147 : decode b_O_comparedAsNumbers 147 = .ok (.aload_n 0, 1) := by decide +kernel
theorem dd_O_comparedAsNumbers_148 : decode b_O_comparedAsNumbers 148 = .ok (.getfield 39, 3) := by decide +kernel
theorem dd_O_comparedAsNumbers_151 : decode b_O_comparedAsNumbers 151 = .ok (.getfield 127, 3) := by decide +kernel
theorem dd_O_comparedAsNumbers_154 : decode b_O_comparedAsNumbers 154 = .ok (.aload_n 0, 1) := by decide +kernel
theorem dd_O_comparedAsNumbers_155 : decode b_O_comparedAsNumbers 155 = .ok (.getfield 39, 3) := by decide +kernel
theorem dd_O_comparedAsNumbers_158 : decode b_O_comparedAsNumbers 158 = .ok (.getfield 130, 3) := by decide +kernel
theorem dd_O_comparedAsNumbers_161 : decode b_O_comparedAsNumbers 161 = .ok (.iconst 0, 1) := by decide +kernel
theorem dd_O_comparedAsNumbers_162 : decode b_O_comparedAsNumbers 162 = .ok (.invokevirtual 77, 3) := by decide +kernel
theorem dd_O_comparedAsNumbers_165 : decode b_O_comparedAsNumbers 165 = .ok (.istore 5, 2) := by decide +kernel
theorem dd_O_comparedAsNumbers_167 : decode b_O_comparedAsNumbers 167 = .ok (.aload_n 0, 1) := by decide +kernel
theorem dd_O_comparedAsNumbers_168 : decode b_O_comparedAsNumbers 168 = .ok (.getfield 35, 3) := by decide +kernel
theorem dd_O_comparedAsNumbers_171 : decode b_O_comparedAsNumbers 171 = .ok (.getfield 110, 3) := by decide +kernel
theorem dd_O_comparedAsNumbers_174 : decode b_O_comparedAsNumbers 174 = .ok (.ifCond .ge 9, 3) := by decide +kernel
theorem dd_O_comparedAsNumbers_177 : decode b_O_comparedAsNumbers 177 = .ok (.iload 5, 2) := by decide +kernel
theorem dd_O_comparedAsNumbers_179 : decode b_O_comparedAsNumbers 179 = .ok (.ineg, 1) := by decide +kernel
theorem dd_O_comparedAsNumbers_180 : decode b_O_comparedAsNumbers 180 = .ok (.goto 5, 3) := by decide +kernel
theorem dd_O_comparedAsNumbers_183 : decode b_O_comparedAsNumbers 183 = .ok (.iload 5, 2) := by decide +kernel
theorem dd_O_comparedAsNumbers_185 : decode b_O_comparedAsNumbers 185 = .ok (.ireturn, 1) := by decide +kernel
theorem dd_P_init_0 : decode b_P_init 0 = .ok (.aload_n 0, 1) := by decide +kernel
theorem dd_P_init_1 : decode b_P_init 1 = .ok (.invokespecial 3, 3) := by decide +kernel
theorem dd_P_init_4 : decode b_P_init 4 = .ok (.aload_n 0, 1) := by decide +kernel
theorem dd_P_init_5 : decode b_P_init 5 = .ok (.aload_n 1, 1) := by decide +kernel
theorem dd_P_init_6 : decode b_P_init 6 = .ok (.putfield 9, 3) := by decide +kernel
theorem dd_P_init_9 : decode b_P_init 9 = .ok (.aload_n 0, 1) := by decide +kernel
theorem dd_P_init_10 : decode b_P_init 10 = .ok (.iconst (-1), 1) := by decide +kernel
theorem dd_P_init_11 : decode b_P_init 11 = .ok (.putfield 15, 3) := by decide +kernel
theorem dd_P_init_14 : decode b_P_init 14 = .ok (.return_, 1) := by decide +kernel
theorem dd_P_beginOf_0 : decode b_P_beginOf 0 = .ok (.aload_n 0, 1) := by decide +kernel
theorem dd_P_beginOf_1 : decode b_P_beginOf 1 = .ok (.getfield 9, 3) := by decide +kernel
theorem dd_P_beginOf_4 : decode b_P_beginOf 4 = .ok (.iload_n 3, 1) := by decide +kernel
theorem dd_P_beginOf_5 : decode b_P_beginOf 5 = .ok (.invokevirtual 19, 3) := by decide +kernel
theorem dd_P_beginOf_8 : decode b_P_beginOf 8 = .ok (.istore 4, 2) := by decide +kernel
theorem dd_P_beginOf_10 : decode b_P_beginOf 10 = .ok (.aload_n 0, 1) := by decide +kernel
theorem dd_P_beginOf_11 : decode b_P_beginOf 11 = .ok (.aload_n 1, 1) := by decide +kernel
theorem dd_P_beginOf_12 : decode b_P_beginOf 12 = .ok (.getfield 25, 3) := by decide +kernel
theorem dd_P_beginOf_15 : decode b_P_beginOf 15 = .ok (.aload_n 0, 1) := by decide +kernel
theorem dd_P_beginOf_16 : decode b_P_beginOf 16 = .ok (.getfield 9, 3) := by decide +kernel
theorem dd_P_beginOf_19 : decode b_P_beginOf 19 = .ok (.iload_n 3, 1) := by decide +kernel
theorem dd_P_beginOf_20 : decode b_P_beginOf 20 = .ok (.invokevirtual 30, 3) := by decide +kernel
theorem dd_P_beginOf_23 : decode b_P_beginOf 23 = .ok (.iload 4, 2) := by decide +kernel
theorem dd_P_beginOf_25 : decode b_P_beginOf 25 = .ok (.invokevirtual 33, 3) := by decide +kernel
theorem dd_P_beginOf_28 : decode b_P_beginOf 28 = .ok (.istore 5, 2) := by decide +kernel
theorem dd_P_beginOf_30 : decode b_P_beginOf 30 = .ok (.iload 5, 2) := by decide +kernel
theorem dd_P_beginOf_32 : decode b_P_beginOf 32 = .ok (.iconst (-1), 1) := by decide +kernel
theorem dd_P_beginOf_33 : decode b_P_beginOf 33 = .ok (.if_icmp .ne 6, 3) := by decide +kernel
theorem dd_P_beginOf_36 : decode b_P_beginOf 36 = .ok (.iload 4, 2) := by decide +kernel
theorem dd_P_beginOf_38 : decode b_P_beginOf 38 = .ok (.ireturn, 1) := by decide +kernel
theorem dd_P_beginOf_39 : decode b_P_beginOf 39 = .ok (.iload_n 2, 1) := by decide +kernel
theorem dd_P_beginOf_40 : decode b_P_beginOf 40 = .ok (.iconst 1, 1) := by decide +kernel
theorem dd_P_beginOf_41 : decode b_P_beginOf 41 = .ok (.iand, 1) := by decide +kernel
theorem dd_P_beginOf_42 : decode b_P_beginOf 42 = .ok (.ifCond .eq 13, 3) := by decide +kernel
theorem dd_P_beginOf_45 : decode b_P_beginOf 45 = .ok (.aload_n 0, 1) := by decide +kernel
theorem dd_P_beginOf_46 : decode b_P_beginOf 46 = .ok (.iload 5, 2) := by decide +kernel
theorem dd_P_beginOf_48 : decode b_P_beginOf 48 = .ok (.iload 4, 2) := by decide +kernel
theorem dd_P_beginOf_50 : decode b_P_beginOf 50 = .ok (.invokevirtual 37, 3) := by decide +kernel
theorem dd_P_beginOf_53 : decode b_P_beginOf 53 = .ok (.istore 5, 2) := by decide +kernel
theorem dd_P_beginOf_55 : decode b_P_beginOf 55 = .ok (.iload 4, 2) := by decide +kernel
theorem dd_P_beginOf_57 : decode b_P_beginOf 57 = .ok (.iload 5, 2) := by decide +kernel
theorem dd_P_beginOf_59 : decode b_P_beginOf 59 = .ok (.aload_n 1, 1) := by decide +kernel
theorem dd_P_beginOf_60 : decode b_P_beginOf 60 = .ok (.getfield 41, 3) := by decide +kernel
theorem dd_P_beginOf_63 : decode b_P_beginOf 63 = .ok (.iadd, 1) := by decide +kernel
theorem dd_P_beginOf_64 : decode b_P_beginOf 64 = .ok (.iconst 1, 1) := by decide +kernel
theorem dd_P_beginOf_65 : decode b_P_beginOf 65 = .ok (.isub, 1) := by decide +kernel
theorem dd_P_beginOf_66 : decode b_P_beginOf 66 = .ok (.invokestatic 44, 3) := by decide +kernel
theorem dd_P_beginOf_69 : decode b_P_beginOf 69 = .ok (.ireturn, 1) := by decide +kernel
end
section
theorem dd_P_endOf_0 : decode b_P_endOf 0 = .ok (.aload_n 0, 1) := by decide +kernel
theorem dd_P_endOf_1 : decode b_P_endOf 1 = .ok (.getfield 9, 3) := by decide +kernel
theorem dd_P_endOf_4 : decode b_P_endOf 4 = .ok (.iload_n 3, 1) := by decide +kernel
theorem dd_P_endOf_5 : decode b_P_endOf 5 = .ok (.invokevirtual 19, 3) := by decide +kernel
theorem dd_P_endOf_8 : decode b_P_endOf 8 = .ok (.istore 4, 2) := by decide +kernel
theorem dd_P_endOf_10 : decode b_P_endOf 10 = .ok (.aload_n 1, 1) := by decide +kernel
theorem dd_P_endOf_11 : decode b_P_endOf 11 = .ok (.getfield 49, 3) := by decide +kernel
theorem dd_P_endOf_14 : decode b_P_endOf 14 = .ok (.ifCond .ne 6, 3) := by decide +kernel
theorem dd_P_endOf_17 : decode b_P_endOf 17 = .ok (.iload 4, 2) := by decide +kernel
theorem dd_P_endOf_19 : decode b_P_endOf 19 = .ok (.ireturn, 1) := by decide +kernel
theorem dd_P_endOf_20 : decode b_P_endOf 20 = .ok (.aload_n 0, 1) := by decide +kernel
theorem dd_P_endOf_21 : decode b_P_endOf 21 = .ok (.aload_n 1, 1) := by decide +kernel
theorem dd_P_endOf_22 : decode b_P_endOf 22 = .ok (.getfield 49, 3) := by decide +kernel
theorem dd_P_endOf_25 : decode b_P_endOf 25 = .ok (.aload_n 0, 1) := by decide +kernel
theorem dd_P_endOf_26 : decode b_P_endOf 26 = .ok (.getfield 9, 3) := by decide +kernel
theorem dd_P_endOf_29 : decode b_P_endOf 29 = .ok (.iload_n 3, 1) := by decide +kernel
theorem dd_P_endOf_30 : decode b_P_endOf 30 = .ok (.invokevirtual 30, 3) := by decide +kernel
theorem dd_P_endOf_33 : decode b_P_endOf 33 = .ok (.iload 4, 2) := by decide +kernel
theorem dd_P_endOf_35 : decode b_P_endOf 35 = .ok (.invokevirtual 33, 3) := by decide +kernel
theorem dd_P_endOf_38 : decode b_P_endOf 38 = .ok (.istore 5, 2) := by decide +kernel
theorem dd_P_endOf_40 : decode b_P_endOf 40 = .ok (.iload 5, 2) := by decide +kernel
theorem dd_P_endOf_42 : decode b_P_endOf 42 = .ok (.iconst (-1), 1) := by decide +kernel
theorem dd_P_endOf_43 : decode b_P_endOf 43 = .ok (.if_icmp .ne 6, 3) := by decide +kernel
theorem dd_P_endOf_46 : decode b_P_endOf 46 = .ok (.iload 4, 2) := by decide +kernel
theorem dd_P_endOf_48 : decode b_P_endOf 48 = .ok (.ireturn, 1) := by decide +kernel
theorem dd_P_endOf_49 : decode b_P_endOf 49 = .ok (.aload_n 1, 1) := by decide +kernel
theorem dd_P_endOf_50 : decode b_P_endOf 50 = .ok (.getfield 52, 3) := by decide +kernel
theorem dd_P_endOf_53 : decode b_P_endOf 53 = .ok (.ifCond .ne 12, 3) := by decide +kernel
theorem dd_P_endOf_56 : decode b_P_endOf 56 = .ok (.aload_n 0, 1) := by decide +kernel
theorem dd_P_endOf_57 : decode b_P_endOf 57 = .ok (.iload 5, 2) := by decide +kernel
theorem dd_P_endOf_59 : decode b_P_endOf 59 = .ok (.iload 4, 2) := by decide +kernel
theorem dd_P_endOf_61 : decode b_P_endOf 61 = .ok (.invokevirtual 55, 3) := by decide +kernel
theorem dd_P_endOf_64 : decode b_P_endOf 64 = .ok (.ireturn, 1) := by decide +kernel
theorem dd_P_endOf_65 : decode b_P_endOf 65 = .ok (.iload_n 2, 1) := by decide +kernel
theorem dd_P_endOf_66 : decode b_P_endOf 66 = .ok (.bipush 64, 2) := by decide +kernel
theorem dd_P_endOf_68 : decode b_P_endOf 68 = .ok (.iand, 1) := by decide +kernel
theorem dd_P_endOf_69 : decode b_P_endOf 69 = .ok (.ifCond .eq 13, 3) := by decide +kernel
theorem dd_P_endOf_72 : decode b_P_endOf 72 = .ok (.aload_n 0, 1) := by decide +kernel
theorem dd_P_endOf_73 : decode b_P_endOf 73 = .ok (.iload 5, 2) := by decide +kernel
theorem dd_P_endOf_75 : decode b_P_endOf 75 = .ok (.iload 4, 2) := by decide +kernel
theorem dd_P_endOf_77 : decode b_P_endOf 77 = .ok (.invokevirtual 37, 3) := by decide +kernel
theorem dd_P_endOf_80 : decode b_P_endOf 80 = .ok (.istore 5, 2) := by decide +kernel
theorem dd_P_endOf_82 : decode b_P_endOf 82 = .ok (.iload 4, 2) := by decide +kernel
theorem dd_P_endOf_84 : decode b_P_endOf 84 = .ok (.iload 5, 2) := by decide +kernel
theorem dd_P_endOf_86 : decode b_P_endOf 86 = .ok (.aload_n 1, 1) := by decide +kernel
theorem dd_P_endOf_87 : decode b_P_endOf 87 = .ok (.getfield 52, 3) := by decide +kernel
theorem dd_P_endOf_90 : decode b_P_endOf 90 = .ok (.iadd, 1) := by decide +kernel
theorem dd_P_endOf_91 : decode b_P_endOf 91 = .ok (.invokestatic 44, 3) := by decide +kernel
theorem dd_P_endOf_94 : decode b_P_endOf 94 = .ok (.ireturn, 1) := by decide +kernel
theorem dd_P_fieldStart_0 : decode b_P_fieldStart 0 = .ok (.iload_n 2, 1) := by decide +kernel
theorem dd_P_fieldStart_1 : decode b_P_fieldStart 1 = .ok (.istore 4, 2) := by decide +kernel
theorem dd_P_fieldStart_3 : decode b_P_fieldStart 3 = .ok (.iconst 1, 1) := by decide +kernel
theorem dd_P_fieldStart_4 : decode b_P_fieldStart 4 = .ok (.istore 5, 2) := by decide +kernel
theorem dd_P_fieldStart_6 : decode b_P_fieldStart 6 = .ok (.iload 5, 2) := by decide +kernel
theorem dd_P_fieldStart_8 : decode b_P_fieldStart 8 = .ok (.iload_n 1, 1) := by decide +kernel
theorem dd_P_fieldStart_9 : decode b_P_fieldStart 9 = .ok (.if_icmp .ge 37, 3) := by decide +kernel
theorem dd_P_fieldStart_12 : decode b_P_fieldStart 12 = .ok (.aload_n 0, 1) := by decide +kernel
theorem dd_P_fieldStart_13 : decode b_P_fieldStart 13 = .ok (.iload 4, 2) := by decide +kernel
theorem dd_P_fieldStart_15 : decode b_P_fieldStart 15 = .ok (.iload_n 3, 1) := by decide +kernel
theorem dd_P_fieldStart_16 : decode b_P_fieldStart 16 = .ok (.invokevirtual 55, 3) := by decide +kernel
theorem dd_P_fieldStart_19 : decode b_P_fieldStart 19 = .ok (.istore 4, 2) := by decide +kernel
theorem dd_P_fieldStart_21 : decode b_P_fieldStart 21 = .ok (.iload 4, 2) := by decide +kernel
theorem dd_P_fieldStart_23 : decode b_P_fieldStart 23 = .ok (.iload_n 3, 1) := by decide +kernel
theorem dd_P_fieldStart_24 : decode b_P_fieldStart 24 = .ok (.if_icmp .ne 5, 3) := by decide +kernel
theorem dd_P_fieldStart_27 : decode b_P_fieldStart 27 = .ok (.iconst (-1), 1) := by decide +kernel
theorem dd_P_fieldStart_28 : decode b_P_fieldStart 28 = .ok (.ireturn, 1) := by decide +kernel
theorem dd_P_fieldStart_29 : decode b_P_fieldStart 29 = .ok (.aload_n 0, 1) := by decide +kernel
theorem dd_P_fieldStart_30 : decode b_P_fieldStart 30 = .ok (.getfield 15, 3) := by decide +kernel
theorem dd_P_fieldStart_33 : decode b_P_fieldStart 33 = .ok (.iconst (-1), 1) := by decide +kernel
theorem dd_P_fieldStart_34 : decode b_P_fieldStart 34 = .ok (.if_icmp .eq 6, 3) := by decide +kernel
theorem dd_P_fieldStart_37 : decode b_P_fieldStart 37 = .ok (.iinc 4 1, 3) := by decide +kernel
theorem dd_P_fieldStart_40 : decode b_P_fieldStart 40 = .ok (.iinc 5 1, 3) := by decide +kernel
theorem dd_P_fieldStart_43 : decode b_P_fieldStart 43 = .ok (.goto (-37), 3) := by decide +kernel
theorem dd_P_fieldStart_46 : decode b_P_fieldStart 46 = .ok (.iload 4, 2) := by decide +kernel
theorem dd_P_fieldStart_48 : decode b_P_fieldStart 48 = .ok (.ireturn, 1) := by decide +kernel
theorem dd_P_fieldStop_0 : decode b_P_fieldStop 0 = .ok (.aload_n 0, 1) := by decide +kernel
theorem dd_P_fieldStop_1 : decode b_P_fieldStop 1 = .ok (.getfield 9, 3) := by decide +kernel
theorem dd_P_fieldStop_4 : decode b_P_fieldStop 4 = .ok (.getfield 58, 3) := by decide +kernel
theorem dd_P_fieldStop_7 : decode b_P_fieldStop 7 = .ok (.astore_n 3, 1) := by decide +kernel
theorem dd_P_fieldStop_8 : decode b_P_fieldStop 8 = .ok (.iload_n 1, 1) := by decide +kernel
theorem dd_P_fieldStop_9 : decode b_P_fieldStop 9 = .ok (.istore 4, 2) := by decide +kernel
theorem dd_P_fieldStop_11 : decode b_P_fieldStop 11 = .ok (.aload_n 0, 1) := by decide +kernel
theorem dd_P_fieldStop_12 : decode b_P_fieldStop 12 = .ok (.getfield 15, 3) := by decide +kernel
theorem dd_P_fieldStop_15 : decode b_P_fieldStop 15 = .ok (.iconst (-1), 1) := by decide +kernel
theorem dd_P_fieldStop_16 : decode b_P_fieldStop 16 = .ok (.if_icmp .eq 33, 3) := by decide +kernel
theorem dd_P_fieldStop_19 : decode b_P_fieldStop 19 = .ok (.iload 4, 2) := by decide +kernel
theorem dd_P_fieldStop_21 : decode b_P_fieldStop 21 = .ok (.iload_n 2, 1) := by decide +kernel
theorem dd_P_fieldStop_22 : decode b_P_fieldStop 22 = .ok (.if_icmp .ge 24, 3) := by decide +kernel
theorem dd_P_fieldStop_25 : decode b_P_fieldStop 25 = .ok (.aload_n 3, 1) := by decide +kernel
theorem dd_P_fieldStop_26 : decode b_P_fieldStop 26 = .ok (.iload 4, 2) := by decide +kernel
theorem dd_P_fieldStop_28 : decode b_P_fieldStop 28 = .ok (.baload, 1) := by decide +kernel
theorem dd_P_fieldStop_29 : decode b_P_fieldStop 29 = .ok (.sipush 255, 3) := by decide +kernel
theorem dd_P_fieldStop_32 : decode b_P_fieldStop 32 = .ok (.iand, 1) := by decide +kernel
theorem dd_P_fieldStop_33 : decode b_P_fieldStop 33 = .ok (.aload_n 0, 1) := by decide +kernel
theorem dd_P_fieldStop_34 : decode b_P_fieldStop 34 = .ok (.getfield 15, 3) := by decide +kernel
theorem dd_P_fieldStop_37 : decode b_P_fieldStop 37 = .ok (.if_icmp .eq 9, 3) := by decide +kernel
theorem dd_P_fieldStop_40 : decode b_P_fieldStop 40 = .ok (.iinc 4 1, 3) := by decide +kernel
theorem dd_P_fieldStop_43 : decode b_P_fieldStop 43 = .ok (.goto (-24), 3) := by decide +kernel
theorem dd_P_fieldStop_46 : decode b_P_fieldStop 46 = .ok (.iload 4, 2) := by decide +kernel
theorem dd_P_fieldStop_48 : decode b_P_fieldStop 48 = .ok (.ireturn, 1) := by decide +kernel
theorem dd_P_fieldStop_49 : decode b_P_fieldStop 49 = .ok (.iload 4, 2) := by decide +kernel
theorem dd_P_fieldStop_51 : decode b_P_fieldStop 51 = .ok (.iload_n 2, 1) := by decide +kernel
theorem dd_P_fieldStop_52 : decode b_P_fieldStop 52 = .ok (.if_icmp .ge 27, 3) := by decide +kernel
theorem dd_P_fieldStop_55 : decode b_P_fieldStop 55 = .ok (.aload_n 3, 1) := by decide +kernel
theorem dd_P_fieldStop_56 : decode b_P_fieldStop 56 = .ok (.iload 4, 2) := by decide +kernel
theorem dd_P_fieldStop_58 : decode b_P_fieldStop 58 = .ok (.baload, 1) := by decide +kernel
theorem dd_P_fieldStop_59 : decode b_P_fieldStop 59 = .ok (.bipush 32, 2) := by decide +kernel
theorem dd_P_fieldStop_61 : decode b_P_fieldStop 61 = .ok (.if_icmp .eq 12, 3) := by decide +kernel
theorem dd_P_fieldStop_64 : decode b_P_fieldStop 64 = .ok (.aload_n 3, 1) := by decide +kernel
theorem dd_P_fieldStop_65 : decode b_P_fieldStop 65 = .ok (.iload 4, 2) := by decide +kernel
theorem dd_P_fieldStop_67 : decode b_P_fieldStop 67 = .ok (.baload, 1) := by decide +kernel
theorem dd_P_fieldStop_68 : decode b_P_fieldStop 68 = .ok (.bipush 9, 2) := by decide +kernel
theorem dd_P_fieldStop_70 : decode b_P_fieldStop 70 = .ok (.if_icmp .ne 9, 3) := by decide +kernel
theorem dd_P_fieldStop_73 : decode b_P_fieldStop 73 = .ok (.iinc 4 1, 3) := by decide +kernel
theorem dd_P_fieldStop_76 : decode b_P_fieldStop 76 = .ok (.goto (-27), 3) := by decide +kernel
theorem dd_P_fieldStop_79 : decode b_P_fieldStop 79 = .ok (.iload 4, 2) := by decide +kernel
theorem dd_P_fieldStop_81 : decode b_P_fieldStop 81 = .ok (.iload_n 2, 1) := by decide +kernel
theorem dd_P_fieldStop_82 : decode b_P_fieldStop 82 = .ok (.if_icmp .ge 27, 3) := by decide +kernel
theorem dd_P_fieldStop_85 : decode b_P_fieldStop 85 = .ok (.aload_n 3, 1) := by decide +kernel
theorem dd_P_fieldStop_86 : decode b_P_fieldStop 86 = .ok (.iload 4, 2) := by decide +kernel
theorem dd_P_fieldStop_88 : decode b_P_fieldStop 88 = .ok (.baload, 1) := by decide +kernel
theorem dd_P_fieldStop_89 : decode b_P_fieldStop 89 = .ok (.bipush 32, 2) := by decide +kernel
theorem dd_P_fieldStop_91 : decode b_P_fieldStop 91 = .ok (.if_icmp .eq 18, 3) := by decide +kernel
theorem dd_P_fieldStop_94 : decode b_P_fieldStop 94 = .ok (.aload_n 3, 1) := by decide +kernel
theorem dd_P_fieldStop_95 : decode b_P_fieldStop 95 = .ok (.iload 4, 2) := by decide +kernel
theorem dd_P_fieldStop_97 : decode b_P_fieldStop 97 = .ok (.baload, 1) := by decide +kernel
theorem dd_P_fieldStop_98 : decode b_P_fieldStop 98 = .ok (.bipush 9, 2) := by decide +kernel
theorem dd_P_fieldStop_100 : decode b_P_fieldStop 100 = .ok (.if_icmp .eq 9, 3) := by decide +kernel
theorem dd_P_fieldStop_103 : decode b_P_fieldStop 103 = .ok (.iinc 4 1, 3) := by decide +kernel
theorem dd_P_fieldStop_106 : decode b_P_fieldStop 106 = .ok (.goto (-27), 3) := by decide +kernel
theorem dd_P_fieldStop_109 : decode b_P_fieldStop 109 = .ok (.iload 4, 2) := by decide +kernel
theorem dd_P_fieldStop_111 : decode b_P_fieldStop 111 = .ok (.ireturn, 1) := by decide +kernel
theorem dd_P_passBlanksOfField_0 : decode b_P_passBlanksOfField 0 = .ok (.iload_n 1, 1) := by decide +kernel
theorem dd_P_passBlanksOfField_1 : decode b_P_passBlanksOfField 1 = .ok (.istore_n 3, 1) := by decide +kernel
theorem dd_P_passBlanksOfField_2 : decode b_P_passBlanksOfField 2 = .ok (.iload_n 3, 1) := by decide +kernel
theorem dd_P_passBlanksOfField_3 : decode b_P_passBlanksOfField 3 = .ok (.iload_n 2, 1) := by decide +kernel
theorem dd_P_passBlanksOfField_4 : decode b_P_passBlanksOfField 4 = .ok (.if_icmp .ge 35, 3) := by decide +kernel
theorem dd_P_passBlanksOfField_7 : decode b_P_passBlanksOfField 7 = .ok (.aload_n 0, 1) := by decide +kernel
theorem dd_P_passBlanksOfField_8 : decode b_P_passBlanksOfField 8 = .ok (.getfield 9, 3) := by decide +kernel
theorem dd_P_passBlanksOfField_11 : decode b_P_passBlanksOfField 11 = .ok (.iload_n 3, 1) := by decide +kernel
theorem dd_P_passBlanksOfField_12 : decode b_P_passBlanksOfField 12 = .ok (.invokevirtual 62, 3) := by decide +kernel
theorem dd_P_passBlanksOfField_15 : decode b_P_passBlanksOfField 15 = .ok (.ifCond .eq 24, 3) := by decide +kernel
theorem dd_P_passBlanksOfField_18 : decode b_P_passBlanksOfField 18 = .ok (.aload_n 0, 1) := by decide +kernel
theorem dd_P_passBlanksOfField_19 : decode b_P_passBlanksOfField 19 = .ok (.getfield 9, 3) := by decide +kernel
theorem dd_P_passBlanksOfField_22 : decode b_P_passBlanksOfField 22 = .ok (.iload_n 3, 1) := by decide +kernel
theorem dd_P_passBlanksOfField_23 : decode b_P_passBlanksOfField 23 = .ok (.invokevirtual 66, 3) := by decide +kernel
theorem dd_P_passBlanksOfField_26 : decode b_P_passBlanksOfField 26 = .ok (.aload_n 0, 1) := by decide +kernel
theorem dd_P_passBlanksOfField_27 : decode b_P_passBlanksOfField 27 = .ok (.getfield 15, 3) := by decide +kernel
theorem dd_P_passBlanksOfField_30 : decode b_P_passBlanksOfField 30 = .ok (.if_icmp .eq 9, 3) := by decide +kernel
theorem dd_P_passBlanksOfField_33 : decode b_P_passBlanksOfField 33 = .ok (.iinc 3 1, 3) := by decide +kernel
theorem dd_P_passBlanksOfField_36 : decode b_P_passBlanksOfField 36 = .ok (.goto (-34), 3) := by decide +kernel
theorem dd_P_passBlanksOfField_39 : decode b_P_passBlanksOfField 39 = .ok (.iload_n 3, 1) := by decide +kernel
theorem dd_P_passBlanksOfField_40 : decode b_P_passBlanksOfField 40 = .ok (.ireturn, 1) := by decide +kernel
theorem dd_R_init_0 : decode b_R_init 0 = .ok (.aload_n 0, 1) := by decide +kernel
theorem dd_R_init_1 : decode b_R_init 1 = .ok (.invokespecial 3, 3) := by decide +kernel
theorem dd_R_init_4 : decode b_R_init 4 = .ok (.aload_n 0, 1) := by decide +kernel
theorem dd_R_init_5 : decode b_R_init 5 = .ok (.aload_n 1, 1) := by decide +kernel
theorem dd_R_init_6 : decode b_R_init 6 = .ok (.putfield 9, 3) := by decide +kernel
theorem dd_R_init_9 : decode b_R_init 9 = .ok (.aload_n 0, 1) := by decide +kernel
theorem dd_R_init_10 : decode b_R_init 10 = .ok (.sipush 1000, 3) := by decide +kernel
theorem dd_R_init_13 : decode b_R_init 13 = .ok (.newarray .int, 2) := by decide +kernel
theorem dd_R_init_15 : decode b_R_init 15 = .ok (.putfield 15, 3) := by decide +kernel
theorem dd_R_init_18 : decode b_R_init 18 = .ok (.aload_n 0, 1) := by decide +kernel
theorem dd_R_init_19 : decode b_R_init 19 = .ok (.sipush 1000, 3) := by decide +kernel
theorem dd_R_init_22 : decode b_R_init 22 = .ok (.newarray .int, 2) := by decide +kernel
theorem dd_R_init_24 : decode b_R_init 24 = .ok (.putfield 19, 3) := by decide +kernel
theorem dd_R_init_27 : decode b_R_init 27 = .ok (.return_, 1) := by decide +kernel
theorem dd_R_rankFirst_0 : decode b_R_rankFirst 0 = .ok (.iconst 0, 1) := by decide +kernel
theorem dd_R_rankFirst_1 : decode b_R_rankFirst 1 = .ok (.istore_n 2, 1) := by decide +kernel
theorem dd_R_rankFirst_2 : decode b_R_rankFirst 2 = .ok (.iload_n 2, 1) := by decide +kernel
theorem dd_R_rankFirst_3 : decode b_R_rankFirst 3 = .ok (.iload_n 1, 1) := by decide +kernel
theorem dd_R_rankFirst_4 : decode b_R_rankFirst 4 = .ok (.if_icmp .ge 86, 3) := by decide +kernel
theorem dd_R_rankFirst_7 : decode b_R_rankFirst 7 = .ok (.iconst 0, 1) := by decide +kernel
theorem dd_R_rankFirst_8 : decode b_R_rankFirst 8 = .ok (.istore_n 3, 1) := by decide +kernel
theorem dd_R_rankFirst_9 : decode b_R_rankFirst 9 = .ok (.iload_n 2, 1) := by decide +kernel
theorem dd_R_rankFirst_10 : decode b_R_rankFirst 10 = .ok (.istore 4, 2) := by decide +kernel
theorem dd_R_rankFirst_12 : decode b_R_rankFirst 12 = .ok (.iload_n 3, 1) := by decide +kernel
theorem dd_R_rankFirst_13 : decode b_R_rankFirst 13 = .ok (.iload 4, 2) := by decide +kernel
theorem dd_R_rankFirst_15 : decode b_R_rankFirst 15 = .ok (.if_icmp .ge 44, 3) := by decide +kernel
theorem dd_R_rankFirst_18 : decode b_R_rankFirst 18 = .ok (.iload_n 3, 1) := by decide +kernel
theorem dd_R_rankFirst_19 : decode b_R_rankFirst 19 = .ok (.iload 4, 2) := by decide +kernel
theorem dd_R_rankFirst_21 : decode b_R_rankFirst 21 = .ok (.iadd, 1) := by decide +kernel
theorem dd_R_rankFirst_22 : decode b_R_rankFirst 22 = .ok (.iconst 2, 1) := by decide +kernel
theorem dd_R_rankFirst_23 : decode b_R_rankFirst 23 = .ok (.idiv, 1) := by decide +kernel
theorem dd_R_rankFirst_24 : decode b_R_rankFirst 24 = .ok (.istore 5, 2) := by decide +kernel
theorem dd_R_rankFirst_26 : decode b_R_rankFirst 26 = .ok (.aload_n 0, 1) := by decide +kernel
theorem dd_R_rankFirst_27 : decode b_R_rankFirst 27 = .ok (.getfield 9, 3) := by decide +kernel
theorem dd_R_rankFirst_30 : decode b_R_rankFirst 30 = .ok (.aload_n 0, 1) := by decide +kernel
theorem dd_R_rankFirst_31 : decode b_R_rankFirst 31 = .ok (.getfield 19, 3) := by decide +kernel
theorem dd_R_rankFirst_34 : decode b_R_rankFirst 34 = .ok (.iload 5, 2) := by decide +kernel
theorem dd_R_rankFirst_36 : decode b_R_rankFirst 36 = .ok (.iaload, 1) := by decide +kernel
theorem dd_R_rankFirst_37 : decode b_R_rankFirst 37 = .ok (.iload_n 2, 1) := by decide +kernel
theorem dd_R_rankFirst_38 : decode b_R_rankFirst 38 = .ok (.invokevirtual 22, 3) := by decide +kernel
theorem dd_R_rankFirst_41 : decode b_R_rankFirst 41 = .ok (.ifCond .gt 11, 3) := by decide +kernel
theorem dd_R_rankFirst_44 : decode b_R_rankFirst 44 = .ok (.iload 5, 2) := by decide +kernel
theorem dd_R_rankFirst_46 : decode b_R_rankFirst 46 = .ok (.iconst 1, 1) := by decide +kernel
theorem dd_R_rankFirst_47 : decode b_R_rankFirst 47 = .ok (.iadd, 1) := by decide +kernel
theorem dd_R_rankFirst_48 : decode b_R_rankFirst 48 = .ok (.istore_n 3, 1) := by decide +kernel
theorem dd_R_rankFirst_49 : decode b_R_rankFirst 49 = .ok (.goto 7, 3) := by decide +kernel
theorem dd_R_rankFirst_52 : decode b_R_rankFirst 52 = .ok (.iload 5, 2) := by decide +kernel
theorem dd_R_rankFirst_54 : decode b_R_rankFirst 54 = .ok (.istore 4, 2) := by decide +kernel
theorem dd_R_rankFirst_56 : decode b_R_rankFirst 56 = .ok (.goto (-44), 3) := by decide +kernel
theorem dd_R_rankFirst_59 : decode b_R_rankFirst 59 = .ok (.aload_n 0, 1) := by decide +kernel
theorem dd_R_rankFirst_60 : decode b_R_rankFirst 60 = .ok (.getfield 19, 3) := by decide +kernel
theorem dd_R_rankFirst_63 : decode b_R_rankFirst 63 = .ok (.iload_n 3, 1) := by decide +kernel
theorem dd_R_rankFirst_64 : decode b_R_rankFirst 64 = .ok (.aload_n 0, 1) := by decide +kernel
theorem dd_R_rankFirst_65 : decode b_R_rankFirst 65 = .ok (.getfield 19, 3) := by decide +kernel
theorem dd_R_rankFirst_68 : decode b_R_rankFirst 68 = .ok (.iload_n 3, 1) := by decide +kernel
theorem dd_R_rankFirst_69 : decode b_R_rankFirst 69 = .ok (.iconst 1, 1) := by decide +kernel
theorem dd_R_rankFirst_70 : decode b_R_rankFirst 70 = .ok (.iadd, 1) := by decide +kernel
theorem dd_R_rankFirst_71 : decode b_R_rankFirst 71 = .ok (.iload_n 2, 1) := by decide +kernel
theorem dd_R_rankFirst_72 : decode b_R_rankFirst 72 = .ok (.iload_n 3, 1) := by decide +kernel
theorem dd_R_rankFirst_73 : decode b_R_rankFirst 73 = .ok (.isub, 1) := by decide +kernel
theorem dd_R_rankFirst_74 : decode b_R_rankFirst 74 = .ok (.invokestatic 28, 3) := by decide +kernel
theorem dd_R_rankFirst_77 : decode b_R_rankFirst 77 = .ok (.aload_n 0, 1) := by decide +kernel
theorem dd_R_rankFirst_78 : decode b_R_rankFirst 78 = .ok (.getfield 19, 3) := by decide +kernel
theorem dd_R_rankFirst_81 : decode b_R_rankFirst 81 = .ok (.iload_n 3, 1) := by decide +kernel
theorem dd_R_rankFirst_82 : decode b_R_rankFirst 82 = .ok (.iload_n 2, 1) := by decide +kernel
theorem dd_R_rankFirst_83 : decode b_R_rankFirst 83 = .ok (.iastore, 1) := by decide +kernel
theorem dd_R_rankFirst_84 : decode b_R_rankFirst 84 = .ok (.iinc 2 1, 3) := by decide +kernel
theorem dd_R_rankFirst_87 : decode b_R_rankFirst 87 = .ok (.goto (-85), 3) := by decide +kernel
theorem dd_R_rankFirst_90 : decode b_R_rankFirst 90 = .ok (.iconst 0, 1) := by decide +kernel
theorem dd_R_rankFirst_91 : decode b_R_rankFirst 91 = .ok (.istore_n 2, 1) := by decide +kernel
theorem dd_R_rankFirst_92 : decode b_R_rankFirst 92 = .ok (.iload_n 2, 1) := by decide +kernel
theorem dd_R_rankFirst_93 : decode b_R_rankFirst 93 = .ok (.iload_n 1, 1) := by decide +kernel
theorem dd_R_rankFirst_94 : decode b_R_rankFirst 94 = .ok (.if_icmp .ge 21, 3) := by decide +kernel
theorem dd_R_rankFirst_97 : decode b_R_rankFirst 97 = .ok (.aload_n 0, 1) := by decide +kernel
theorem dd_R_rankFirst_98 : decode b_R_rankFirst 98 = .ok (.getfield 15, 3) := by decide +kernel
theorem dd_R_rankFirst_101 : decode b_R_rankFirst 101 = .ok (.aload_n 0, 1) := by decide +kernel
theorem dd_R_rankFirst_102 : decode b_R_rankFirst 102 = .ok (.getfield 19, 3) := by decide +kernel
theorem dd_R_rankFirst_105 : decode b_R_rankFirst 105 = .ok (.iload_n 2, 1) := by decide +kernel
theorem dd_R_rankFirst_106 : decode b_R_rankFirst 106 = .ok (.iaload, 1) := by decide +kernel
theorem dd_R_rankFirst_107 : decode b_R_rankFirst 107 = .ok (.iload_n 2, 1) := by decide +kernel
theorem dd_R_rankFirst_108 : decode b_R_rankFirst 108 = .ok (.iastore, 1) := by decide +kernel
theorem dd_R_rankFirst_109 : decode b_R_rankFirst 109 = .ok (.iinc 2 1, 3) := by decide +kernel
theorem dd_R_rankFirst_112 : decode b_R_rankFirst 112 = .ok (.goto (-20), 3) := by decide +kernel
theorem dd_R_rankFirst_115 : decode b_R_rankFirst 115 = .ok (.return_, 1) := by decide +kernel
theorem dd_R_rankOf_0 : decode b_R_rankOf 0 = .ok (.aload_n 0, 1) := by decide +kernel
theorem dd_R_rankOf_1 : decode b_R_rankOf 1 = .ok (.getfield 15, 3) := by decide +kernel
theorem dd_R_rankOf_4 : decode b_R_rankOf 4 = .ok (.iload_n 1, 1) := by decide +kernel
theorem dd_R_rankOf_5 : decode b_R_rankOf 5 = .ok (.iaload, 1) := by decide +kernel
theorem dd_R_rankOf_6 : decode b_R_rankOf 6 = .ok (.ireturn, 1) := by decide +kernel
theorem dd_R_lineAt_0 : decode b_R_lineAt 0 = .ok (.aload_n 0, 1) := by decide +kernel
theorem dd_R_lineAt_1 : decode b_R_lineAt 1 = .ok (.getfield 19, 3) := by decide +kernel
theorem dd_R_lineAt_4 : decode b_R_lineAt 4 = .ok (.iload_n 1, 1) := by decide +kernel
theorem dd_R_lineAt_5 : decode b_R_lineAt 5 = .ok (.iaload, 1) := by decide +kernel
theorem dd_R_lineAt_6 : decode b_R_lineAt 6 = .ok (.ireturn, 1) := by decide +kernel
theorem dd_U_init_0 : decode b_U_init 0 = .ok (.aload_n 0, 1) := by decide +kernel
theorem dd_U_init_1 : decode b_U_init 1 = .ok (.invokespecial 3, 3) := by decide +kernel
theorem dd_U_init_4 : decode b_U_init 4 = .ok (.aload_n 0, 1) := by decide +kernel
theorem dd_U_init_5 : decode b_U_init 5 = .ok (.aload_n 1, 1) := by decide +kernel
theorem dd_U_init_6 : decode b_U_init 6 = .ok (.putfield 9, 3) := by decide +kernel
theorem dd_U_init_9 : decode b_U_init 9 = .ok (.aload_n 0, 1) := by decide +kernel
theorem dd_U_init_10 : decode b_U_init 10 = .ok (.aload_n 2, 1) := by decide +kernel
theorem dd_U_init_11 : decode b_U_init 11 = .ok (.putfield 15, 3) := by decide +kernel
theorem dd_U_init_14 : decode b_U_init 14 = .ok (.aload_n 0, 1) := by decide +kernel
theorem dd_U_init_15 : decode b_U_init 15 = .ok (.sipush 1000, 3) := by decide +kernel
theorem dd_U_init_18 : decode b_U_init 18 = .ok (.newarray .int, 2) := by decide +kernel
theorem dd_U_init_20 : decode b_U_init 20 = .ok (.putfield 19, 3) := by decide +kernel
theorem dd_U_init_23 : decode b_U_init 23 = .ok (.aload_n 0, 1) := by decide +kernel
theorem dd_U_init_24 : decode b_U_init 24 = .ok (.sipush 2000, 3) := by decide +kernel
theorem dd_U_init_27 : decode b_U_init 27 = .ok (.newarray .int, 2) := by decide +kernel
theorem dd_U_init_29 : decode b_U_init 29 = .ok (.putfield 23, 3) := by decide +kernel
theorem dd_U_init_32 : decode b_U_init 32 = .ok (.aload_n 0, 1) := by decide +kernel
theorem dd_U_init_33 : decode b_U_init 33 = .ok (.iconst 0, 1) := by decide +kernel
theorem dd_U_init_34 : decode b_U_init 34 = .ok (.putfield 26, 3) := by decide +kernel
theorem dd_U_init_37 : decode b_U_init 37 = .ok (.aload_n 0, 1) := by decide +kernel
theorem dd_U_init_38 : decode b_U_init 38 = .ok (.iconst 0, 1) := by decide +kernel
theorem dd_U_init_39 : decode b_U_init 39 = .ok (.putfield 30, 3) := by decide +kernel
theorem dd_U_init_42 : decode b_U_init 42 = .ok (.aload_n 0, 1) := by decide +kernel
theorem dd_U_init_43 : decode b_U_init 43 = .ok (.iconst 0, 1) := by decide +kernel
theorem dd_U_init_44 : decode b_U_init 44 = .ok (.putfield 33, 3) := by decide +kernel
theorem dd_U_init_47 : decode b_U_init 47 = .ok (.aload_n 0, 1) := by decide +kernel
theorem dd_U_init_48 : decode b_U_init 48 = .ok (.iconst 0, 1) := by decide +kernel
theorem dd_U_init_49 : decode b_U_init 49 = .ok (.putfield 36, 3) := by decide +kernel
theorem dd_U_init_52 : decode b_U_init 52 = .ok (.return_, 1) := by decide +kernel
theorem dd_U_makeRuns_0 : decode b_U_makeRuns 0 = .ok (.iload_n 1, 1) := by decide +kernel
theorem dd_U_makeRuns_1 : decode b_U_makeRuns 1 = .ok (.iload_n 2, 1) := by decide +kernel
theorem dd_U_makeRuns_2 : decode b_U_makeRuns 2 = .ok (.invokestatic 39, 3) := by decide +kernel
theorem dd_U_makeRuns_5 : decode b_U_makeRuns 5 = .ok (.istore_n 3, 1) := by decide +kernel
theorem dd_U_makeRuns_6 : decode b_U_makeRuns 6 = .ok (.aload_n 0, 1) := by decide +kernel
theorem dd_U_makeRuns_7 : decode b_U_makeRuns 7 = .ok (.getfield 15, 3) := by decide +kernel
theorem dd_U_makeRuns_10 : decode b_U_makeRuns 10 = .ok (.invokevirtual 45, 3) := by decide +kernel
theorem dd_U_makeRuns_13 : decode b_U_makeRuns 13 = .ok (.iconst 0, 1) := by decide +kernel
theorem dd_U_makeRuns_14 : decode b_U_makeRuns 14 = .ok (.istore 4, 2) := by decide +kernel
theorem dd_U_makeRuns_16 : decode b_U_makeRuns 16 = .ok (.iload 4, 2) := by decide +kernel
theorem dd_U_makeRuns_18 : decode b_U_makeRuns 18 = .ok (.iload_n 3, 1) := by decide +kernel
theorem dd_U_makeRuns_19 : decode b_U_makeRuns 19 = .ok (.if_icmp .ge 25, 3) := by decide +kernel
theorem dd_U_makeRuns_22 : decode b_U_makeRuns 22 = .ok (.aload_n 0, 1) := by decide +kernel
theorem dd_U_makeRuns_23 : decode b_U_makeRuns 23 = .ok (.getfield 15, 3) := by decide +kernel
theorem dd_U_makeRuns_26 : decode b_U_makeRuns 26 = .ok (.aload_n 0, 1) := by decide +kernel
theorem dd_U_makeRuns_27 : decode b_U_makeRuns 27 = .ok (.getfield 9, 3) := by decide +kernel
theorem dd_U_makeRuns_30 : decode b_U_makeRuns 30 = .ok (.iload 4, 2) := by decide +kernel
theorem dd_U_makeRuns_32 : decode b_U_makeRuns 32 = .ok (.invokevirtual 50, 3) := by decide +kernel
theorem dd_U_makeRuns_35 : decode b_U_makeRuns 35 = .ok (.invokevirtual 56, 3) := by decide +kernel
theorem dd_U_makeRuns_38 : decode b_U_makeRuns 38 = .ok (.iinc 4 1, 3) := by decide +kernel
theorem dd_U_makeRuns_41 : decode b_U_makeRuns 41 = .ok (.goto (-25), 3) := by decide +kernel
theorem dd_U_makeRuns_44 : decode b_U_makeRuns 44 = .ok (.aload_n 0, 1) := by decide +kernel
theorem dd_U_makeRuns_45 : decode b_U_makeRuns 45 = .ok (.iconst 0, 1) := by decide +kernel
theorem dd_U_makeRuns_46 : decode b_U_makeRuns 46 = .ok (.putfield 26, 3) := by decide +kernel
theorem dd_U_makeRuns_49 : decode b_U_makeRuns 49 = .ok (.iconst 0, 1) := by decide +kernel
theorem dd_U_makeRuns_50 : decode b_U_makeRuns 50 = .ok (.istore 4, 2) := by decide +kernel
theorem dd_U_makeRuns_52 : decode b_U_makeRuns 52 = .ok (.iload 4, 2) := by decide +kernel
theorem dd_U_makeRuns_54 : decode b_U_makeRuns 54 = .ok (.iload_n 1, 1) := by decide +kernel
theorem dd_U_makeRuns_55 : decode b_U_makeRuns 55 = .ok (.if_icmp .ge 88, 3) := by decide +kernel
theorem dd_U_makeRuns_58 : decode b_U_makeRuns 58 = .ok (.aload_n 0, 1) := by decide +kernel
theorem dd_U_makeRuns_59 : decode b_U_makeRuns 59 = .ok (.getfield 15, 3) := by decide +kernel
theorem dd_U_makeRuns_62 : decode b_U_makeRuns 62 = .ok (.invokevirtual 60, 3) := by decide +kernel
theorem dd_U_makeRuns_65 : decode b_U_makeRuns 65 = .ok (.istore 5, 2) := by decide +kernel
theorem dd_U_makeRuns_67 : decode b_U_makeRuns 67 = .ok (.iload 5, 2) := by decide +kernel
theorem dd_U_makeRuns_69 : decode b_U_makeRuns 69 = .ok (.sipush 1000, 3) := by decide +kernel
theorem dd_U_makeRuns_72 : decode b_U_makeRuns 72 = .ok (.idiv, 1) := by decide +kernel
theorem dd_U_makeRuns_73 : decode b_U_makeRuns 73 = .ok (.istore 6, 2) := by decide +kernel
theorem dd_U_makeRuns_75 : decode b_U_makeRuns 75 = .ok (.aload_n 0, 1) := by decide +kernel
theorem dd_U_makeRuns_76 : decode b_U_makeRuns 76 = .ok (.iload 6, 2) := by decide +kernel
theorem dd_U_makeRuns_78 : decode b_U_makeRuns 78 = .ok (.invokevirtual 64, 3) := by decide +kernel
theorem dd_U_makeRuns_81 : decode b_U_makeRuns 81 = .ok (.iload_n 3, 1) := by decide +kernel
theorem dd_U_makeRuns_82 : decode b_U_makeRuns 82 = .ok (.iload_n 1, 1) := by decide +kernel
theorem dd_U_makeRuns_83 : decode b_U_makeRuns 83 = .ok (.if_icmp .ge 54, 3) := by decide +kernel
theorem dd_U_makeRuns_86 : decode b_U_makeRuns 86 = .ok (.aload_n 0, 1) := by decide +kernel
theorem dd_U_makeRuns_87 : decode b_U_makeRuns 87 = .ok (.getfield 9, 3) := by decide +kernel
theorem dd_U_makeRuns_90 : decode b_U_makeRuns 90 = .ok (.iload_n 3, 1) := by decide +kernel
theorem dd_U_makeRuns_91 : decode b_U_makeRuns 91 = .ok (.invokevirtual 50, 3) := by decide +kernel
theorem dd_U_makeRuns_94 : decode b_U_makeRuns 94 = .ok (.istore 7, 2) := by decide +kernel
theorem dd_U_makeRuns_96 : decode b_U_makeRuns 96 = .ok (.iload 7, 2) := by decide +kernel
theorem dd_U_makeRuns_98 : decode b_U_makeRuns 98 = .ok (.iload 5, 2) := by decide +kernel
theorem dd_U_makeRuns_100 : decode b_U_makeRuns 100 = .ok (.sipush 1000, 3) := by decide +kernel
theorem dd_U_makeRuns_103 : decode b_U_makeRuns 103 = .ok (.irem, 1) := by decide +kernel
theorem dd_U_makeRuns_104 : decode b_U_makeRuns 104 = .ok (.if_icmp .le 8, 3) := by decide +kernel
theorem dd_U_makeRuns_107 : decode b_U_makeRuns 107 = .ok (.iload 6, 2) := by decide +kernel
theorem dd_U_makeRuns_109 : decode b_U_makeRuns 109 = .ok (.goto 7, 3) := by decide +kernel
theorem dd_U_makeRuns_112 : decode b_U_makeRuns 112 = .ok (.iload 6, 2) := by decide +kernel
theorem dd_U_makeRuns_114 : decode b_U_makeRuns 114 = .ok (.iconst 1, 1) := by decide +kernel
theorem dd_U_makeRuns_115 : decode b_U_makeRuns 115 = .ok (.iadd, 1) := by decide +kernel
theorem dd_U_makeRuns_116 : decode b_U_makeRuns 116 = .ok (.istore 8, 2) := by decide +kernel
theorem dd_U_makeRuns_118 : decode b_U_makeRuns 118 = .ok (.aload_n 0, 1) := by decide +kernel
theorem dd_U_makeRuns_119 : decode b_U_makeRuns 119 = .ok (.getfield 15, 3) := by decide +kernel
theorem dd_U_makeRuns_122 : decode b_U_makeRuns 122 = .ok (.iload 8, 2) := by decide +kernel
theorem dd_U_makeRuns_124 : decode b_U_makeRuns 124 = .ok (.sipush 1000, 3) := by decide +kernel
theorem dd_U_makeRuns_127 : decode b_U_makeRuns 127 = .ok (.imul, 1) := by decide +kernel
theorem dd_U_makeRuns_128 : decode b_U_makeRuns 128 = .ok (.iload 7, 2) := by decide +kernel
theorem dd_U_makeRuns_130 : decode b_U_makeRuns 130 = .ok (.iadd, 1) := by decide +kernel
theorem dd_U_makeRuns_131 : decode b_U_makeRuns 131 = .ok (.invokevirtual 56, 3) := by decide +kernel
theorem dd_U_makeRuns_134 : decode b_U_makeRuns 134 = .ok (.iinc 3 1, 3) := by decide +kernel
theorem dd_U_makeRuns_137 : decode b_U_makeRuns 137 = .ok (.iinc 4 1, 3) := by decide +kernel
theorem dd_U_makeRuns_140 : decode b_U_makeRuns 140 = .ok (.goto (-88), 3) := by decide +kernel
theorem dd_U_makeRuns_143 : decode b_U_makeRuns 143 = .ok (.return_, 1) := by decide +kernel
theorem dd_U_addLineToRun_0 : decode b_U_addLineToRun 0 = .ok (.iload_n 1, 1) := by decide +kernel
theorem dd_U_addLineToRun_1 : decode b_U_addLineToRun 1 = .ok (.aload_n 0, 1) := by decide +kernel
theorem dd_U_addLineToRun_2 : decode b_U_addLineToRun 2 = .ok (.getfield 26, 3) := by decide +kernel
theorem dd_U_addLineToRun_5 : decode b_U_addLineToRun 5 = .ok (.if_icmp .ne 33, 3) := by decide +kernel
theorem dd_U_addLineToRun_8 : decode b_U_addLineToRun 8 = .ok (.aload_n 0, 1) := by decide +kernel
theorem dd_U_addLineToRun_9 : decode b_U_addLineToRun 9 = .ok (.getfield 26, 3) := by decide +kernel
theorem dd_U_addLineToRun_12 : decode b_U_addLineToRun 12 = .ok (.sipush 1000, 3) := by decide +kernel
theorem dd_U_addLineToRun_15 : decode b_U_addLineToRun 15 = .ok (.if_icmp .ge 23, 3) := by decide +kernel
theorem dd_U_addLineToRun_18 : decode b_U_addLineToRun 18 = .ok (.aload_n 0, 1) := by decide +kernel
theorem dd_U_addLineToRun_19 : decode b_U_addLineToRun 19 = .ok (.getfield 19, 3) := by decide +kernel
theorem dd_U_addLineToRun_22 : decode b_U_addLineToRun 22 = .ok (.aload_n 0, 1) := by decide +kernel
theorem dd_U_addLineToRun_23 : decode b_U_addLineToRun 23 = .ok (.getfield 26, 3) := by decide +kernel
theorem dd_U_addLineToRun_26 : decode b_U_addLineToRun 26 = .ok (.iconst 0, 1) := by decide +kernel
theorem dd_U_addLineToRun_27 : decode b_U_addLineToRun 27 = .ok (.iastore, 1) := by decide +kernel
theorem dd_U_addLineToRun_28 : decode b_U_addLineToRun 28 = .ok (.aload_n 0, 1) := by decide +kernel
theorem dd_U_addLineToRun_29 : decode b_U_addLineToRun 29 = .ok (.dup, 1) := by decide +kernel
theorem dd_U_addLineToRun_30 : decode b_U_addLineToRun 30 = .ok (.getfield 26, 3) := by decide +kernel
theorem dd_U_addLineToRun_33 : decode b_U_addLineToRun 33 = .ok (.iconst 1, 1) := by decide +kernel
theorem dd_U_addLineToRun_34 : decode b_U_addLineToRun 34 = .ok (.iadd, 1) := by decide +kernel
theorem dd_U_addLineToRun_35 : decode b_U_addLineToRun 35 = .ok (.putfield 26, 3) := by decide +kernel
theorem dd_U_addLineToRun_38 : decode b_U_addLineToRun 38 = .ok (.aload_n 0, 1) := by decide +kernel
theorem dd_U_addLineToRun_39 : decode b_U_addLineToRun 39 = .ok (.getfield 19, 3) := by decide +kernel
theorem dd_U_addLineToRun_42 : decode b_U_addLineToRun 42 = .ok (.iload_n 1, 1) := by decide +kernel
theorem dd_U_addLineToRun_43 : decode b_U_addLineToRun 43 = .ok (.dup2, 1) := by decide +kernel
theorem dd_U_addLineToRun_44 : decode b_U_addLineToRun 44 = .ok (.iaload, 1) := by decide +kernel
theorem dd_U_addLineToRun_45 : decode b_U_addLineToRun 45 = .ok (.iconst 1, 1) := by decide +kernel
theorem dd_U_addLineToRun_46 : decode b_U_addLineToRun 46 = .ok (.iadd, 1) := by decide +kernel
theorem dd_U_addLineToRun_47 : decode b_U_addLineToRun 47 = .ok (.iastore, 1) := by decide +kernel
theorem dd_U_addLineToRun_48 : decode b_U_addLineToRun 48 = .ok (.return_, 1) := by decide +kernel
theorem dd_U_countMerges_0 : decode b_U_countMerges 0 = .ok (.aload_n 0, 1) := by decide +kernel
theorem dd_U_countMerges_1 : decode b_U_countMerges 1 = .ok (.getfield 19, 3) := by decide +kernel
theorem dd_U_countMerges_4 : decode b_U_countMerges 4 = .ok (.iconst 0, 1) := by decide +kernel
theorem dd_U_countMerges_5 : decode b_U_countMerges 5 = .ok (.aload_n 0, 1) := by decide +kernel
theorem dd_U_countMerges_6 : decode b_U_countMerges 6 = .ok (.getfield 23, 3) := by decide +kernel
theorem dd_U_countMerges_9 : decode b_U_countMerges 9 = .ok (.iconst 0, 1) := by decide +kernel
theorem dd_U_countMerges_10 : decode b_U_countMerges 10 = .ok (.aload_n 0, 1) := by decide +kernel
theorem dd_U_countMerges_11 : decode b_U_countMerges 11 = .ok (.getfield 26, 3) := by decide +kernel
theorem dd_U_countMerges_14 : decode b_U_countMerges 14 = .ok (.invokestatic 67, 3) := by decide +kernel
theorem dd_U_countMerges_17 : decode b_U_countMerges 17 = .ok (.iconst 0, 1) := by decide +kernel
theorem dd_U_countMerges_18 : decode b_U_countMerges 18 = .ok (.istore_n 2, 1) := by decide +kernel
theorem dd_U_countMerges_19 : decode b_U_countMerges 19 = .ok (.aload_n 0, 1) := by decide +kernel
theorem dd_U_countMerges_20 : decode b_U_countMerges 20 = .ok (.getfield 26, 3) := by decide +kernel
theorem dd_U_countMerges_23 : decode b_U_countMerges 23 = .ok (.istore_n 3, 1) := by decide +kernel
theorem dd_U_countMerges_24 : decode b_U_countMerges 24 = .ok (.aload_n 0, 1) := by decide +kernel
theorem dd_U_countMerges_25 : decode b_U_countMerges 25 = .ok (.iconst 0, 1) := by decide +kernel
theorem dd_U_countMerges_26 : decode b_U_countMerges 26 = .ok (.putfield 30, 3) := by decide +kernel
theorem dd_U_countMerges_29 : decode b_U_countMerges 29 = .ok (.aload_n 0, 1) := by decide +kernel
theorem dd_U_countMerges_30 : decode b_U_countMerges 30 = .ok (.iconst 0, 1) := by decide +kernel
theorem dd_U_countMerges_31 : decode b_U_countMerges 31 = .ok (.putfield 33, 3) := by decide +kernel
theorem dd_U_countMerges_34 : decode b_U_countMerges 34 = .ok (.iload_n 3, 1) := by decide +kernel
theorem dd_U_countMerges_35 : decode b_U_countMerges 35 = .ok (.iload_n 2, 1) := by decide +kernel
theorem dd_U_countMerges_36 : decode b_U_countMerges 36 = .ok (.isub, 1) := by decide +kernel
theorem dd_U_countMerges_37 : decode b_U_countMerges 37 = .ok (.iconst 1, 1) := by decide +kernel
theorem dd_U_countMerges_38 : decode b_U_countMerges 38 = .ok (.if_icmp .le 91, 3) := by decide +kernel
theorem dd_U_countMerges_41 : decode b_U_countMerges 41 = .ok (.aload_n 0, 1) := by decide +kernel
theorem dd_U_countMerges_42 : decode b_U_countMerges 42 = .ok (.getfield 30, 3) := by decide +kernel
theorem dd_U_countMerges_45 : decode b_U_countMerges 45 = .ok (.sipush 1000, 3) := by decide +kernel
theorem dd_U_countMerges_48 : decode b_U_countMerges 48 = .ok (.if_icmp .ge 81, 3) := by decide +kernel
theorem dd_U_countMerges_51 : decode b_U_countMerges 51 = .ok (.iload_n 3, 1) := by decide +kernel
theorem dd_U_countMerges_52 : decode b_U_countMerges 52 = .ok (.iload_n 2, 1) := by decide +kernel
theorem dd_U_countMerges_53 : decode b_U_countMerges 53 = .ok (.iload_n 1, 1) := by decide +kernel
theorem dd_U_countMerges_54 : decode b_U_countMerges 54 = .ok (.iadd, 1) := by decide +kernel
theorem dd_U_countMerges_55 : decode b_U_countMerges 55 = .ok (.invokestatic 39, 3) := by decide +kernel
theorem dd_U_countMerges_58 : decode b_U_countMerges 58 = .ok (.istore 4, 2) := by decide +kernel
theorem dd_U_countMerges_60 : decode b_U_countMerges 60 = .ok (.iconst 0, 1) := by decide +kernel
theorem dd_U_countMerges_61 : decode b_U_countMerges 61 = .ok (.istore 5, 2) := by decide +kernel
theorem dd_U_countMerges_63 : decode b_U_countMerges 63 = .ok (.iload_n 2, 1) := by decide +kernel
theorem dd_U_countMerges_64 : decode b_U_countMerges 64 = .ok (.istore 6, 2) := by decide +kernel
theorem dd_U_countMerges_66 : decode b_U_countMerges 66 = .ok (.iload 6, 2) := by decide +kernel
theorem dd_U_countMerges_68 : decode b_U_countMerges 68 = .ok (.iload 4, 2) := by decide +kernel
theorem dd_U_countMerges_70 : decode b_U_countMerges 70 = .ok (.if_icmp .ge 21, 3) := by decide +kernel
theorem dd_U_countMerges_73 : decode b_U_countMerges 73 = .ok (.iload 5, 2) := by decide +kernel
theorem dd_U_countMerges_75 : decode b_U_countMerges 75 = .ok (.aload_n 0, 1) := by decide +kernel
theorem dd_U_countMerges_76 : decode b_U_countMerges 76 = .ok (.getfield 23, 3) := by decide +kernel
theorem dd_U_countMerges_79 : decode b_U_countMerges 79 = .ok (.iload 6, 2) := by decide +kernel
theorem dd_U_countMerges_81 : decode b_U_countMerges 81 = .ok (.iaload, 1) := by decide +kernel
theorem dd_U_countMerges_82 : decode b_U_countMerges 82 = .ok (.iadd, 1) := by decide +kernel
theorem dd_U_countMerges_83 : decode b_U_countMerges 83 = .ok (.istore 5, 2) := by decide +kernel
theorem dd_U_countMerges_85 : decode b_U_countMerges 85 = .ok (.iinc 6 1, 3) := by decide +kernel
theorem dd_U_countMerges_88 : decode b_U_countMerges 88 = .ok (.goto (-22), 3) := by decide +kernel
theorem dd_U_countMerges_91 : decode b_U_countMerges 91 = .ok (.iload 4, 2) := by decide +kernel
theorem dd_U_countMerges_93 : decode b_U_countMerges 93 = .ok (.istore_n 2, 1) := by decide +kernel
theorem dd_U_countMerges_94 : decode b_U_countMerges 94 = .ok (.aload_n 0, 1) := by decide +kernel
theorem dd_U_countMerges_95 : decode b_U_countMerges 95 = .ok (.getfield 23, 3) := by decide +kernel
theorem dd_U_countMerges_98 : decode b_U_countMerges 98 = .ok (.iload_n 3, 1) := by decide +kernel
theorem dd_U_countMerges_99 : decode b_U_countMerges 99 = .ok (.iload 5, 2) := by decide +kernel
theorem dd_U_countMerges_101 : decode b_U_countMerges 101 = .ok (.iastore, 1) := by decide +kernel
theorem dd_U_countMerges_102 : decode b_U_countMerges 102 = .ok (.iinc 3 1, 3) := by decide +kernel
theorem dd_U_countMerges_105 : decode b_U_countMerges 105 = .ok (.aload_n 0, 1) := by decide +kernel
theorem dd_U_countMerges_106 : decode b_U_countMerges 106 = .ok (.dup, 1) := by decide +kernel
theorem dd_U_countMerges_107 : decode b_U_countMerges 107 = .ok (.getfield 30, 3) := by decide +kernel
theorem dd_U_countMerges_110 : decode b_U_countMerges 110 = .ok (.iconst 1, 1) := by decide +kernel
theorem dd_U_countMerges_111 : decode b_U_countMerges 111 = .ok (.iadd, 1) := by decide +kernel
theorem dd_U_countMerges_112 : decode b_U_countMerges 112 = .ok (.putfield 30, 3) := by decide +kernel
theorem dd_U_countMerges_115 : decode b_U_countMerges 115 = .ok (.aload_n 0, 1) := by decide +kernel
theorem dd_U_countMerges_116 : decode b_U_countMerges 116 = .ok (.dup, 1) := by decide +kernel
theorem dd_U_countMerges_117 : decode b_U_countMerges 117 = .ok (.getfield 33, 3) := by decide +kernel
theorem dd_U_countMerges_120 : decode b_U_countMerges 120 = .ok (.iload 5, 2) := by decide +kernel
theorem dd_U_countMerges_122 : decode b_U_countMerges 122 = .ok (.iadd, 1) := by decide +kernel
theorem dd_U_countMerges_123 : decode b_U_countMerges 123 = .ok (.putfield 33, 3) := by decide +kernel
theorem dd_U_countMerges_126 : decode b_U_countMerges 126 = .ok (.goto (-92), 3) := by decide +kernel
theorem dd_U_countMerges_129 : decode b_U_countMerges 129 = .ok (.return_, 1) := by decide +kernel
theorem dd_T_init_0 : decode b_T_init 0 = .ok (.aload_n 0, 1) := by decide +kernel
theorem dd_T_init_1 : decode b_T_init 1 = .ok (.invokespecial 3, 3) := by decide +kernel
theorem dd_T_init_4 : decode b_T_init 4 = .ok (.aload_n 0, 1) := by decide +kernel
theorem dd_T_init_5 : decode b_T_init 5 = .ok (.sipush 640, 3) := by decide +kernel
theorem dd_T_init_8 : decode b_T_init 8 = .ok (.newarray .byte, 2) := by decide +kernel
theorem dd_T_init_10 : decode b_T_init 10 = .ok (.putfield 11, 3) := by decide +kernel
theorem dd_T_init_13 : decode b_T_init 13 = .ok (.aload_n 0, 1) := by decide +kernel
theorem dd_T_init_14 : decode b_T_init 14 = .ok (.iconst 0, 1) := by decide +kernel
theorem dd_T_init_15 : decode b_T_init 15 = .ok (.putfield 15, 3) := by decide +kernel
theorem dd_T_init_18 : decode b_T_init 18 = .ok (.aload_n 0, 1) := by decide +kernel
theorem dd_T_init_19 : decode b_T_init 19 = .ok (.sipush 640, 3) := by decide +kernel
theorem dd_T_init_22 : decode b_T_init 22 = .ok (.newarray .int, 2) := by decide +kernel
theorem dd_T_init_24 : decode b_T_init 24 = .ok (.putfield 19, 3) := by decide +kernel
theorem dd_T_init_27 : decode b_T_init 27 = .ok (.aload_n 0, 1) := by decide +kernel
theorem dd_T_init_28 : decode b_T_init 28 = .ok (.iconst 0, 1) := by decide +kernel
theorem dd_T_init_29 : decode b_T_init 29 = .ok (.putfield 23, 3) := by decide +kernel
theorem dd_T_init_32 : decode b_T_init 32 = .ok (.return_, 1) := by decide +kernel
end
section
theorem dd_T_append_0 : decode b_T_append 0 = .ok (.aload_n 0, 1) := by decide +kernel
theorem dd_T_append_1 : decode b_T_append 1 = .ok (.iconst 4, 1) := by decide +kernel
theorem dd_T_append_2 : decode b_T_append 2 = .ok (.invokevirtual 26, 3) := by decide +kernel
theorem dd_T_append_5 : decode b_T_append 5 = .ok (.bipush 24, 2) := by decide +kernel
theorem dd_T_append_7 : decode b_T_append 7 = .ok (.istore_n 2, 1) := by decide +kernel
theorem dd_T_append_8 : decode b_T_append 8 = .ok (.iload_n 2, 1) := by decide +kernel
theorem dd_T_append_9 : decode b_T_append 9 = .ok (.ifCond .lt 67, 3) := by decide +kernel
theorem dd_T_append_12 : decode b_T_append 12 = .ok (.iload_n 1, 1) := by decide +kernel
theorem dd_T_append_13 : decode b_T_append 13 = .ok (.iload_n 2, 1) := by decide +kernel
theorem dd_T_append_14 : decode b_T_append 14 = .ok (.ishr, 1) := by decide +kernel
theorem dd_T_append_15 : decode b_T_append 15 = .ok (.sipush 255, 3) := by decide +kernel
theorem dd_T_append_18 : decode b_T_append 18 = .ok (.iand, 1) := by decide +kernel
theorem dd_T_append_19 : decode b_T_append 19 = .ok (.istore_n 3, 1) := by decide +kernel
theorem dd_T_append_20 : decode b_T_append 20 = .ok (.iload_n 3, 1) := by decide +kernel
theorem dd_T_append_21 : decode b_T_append 21 = .ok (.bipush 10, 2) := by decide +kernel
theorem dd_T_append_23 : decode b_T_append 23 = .ok (.if_icmp .ne 26, 3) := by decide +kernel
theorem dd_T_append_26 : decode b_T_append 26 = .ok (.aload_n 0, 1) := by decide +kernel
theorem dd_T_append_27 : decode b_T_append 27 = .ok (.getfield 19, 3) := by decide +kernel
theorem dd_T_append_30 : decode b_T_append 30 = .ok (.aload_n 0, 1) := by decide +kernel
theorem dd_T_append_31 : decode b_T_append 31 = .ok (.getfield 23, 3) := by decide +kernel
theorem dd_T_append_34 : decode b_T_append 34 = .ok (.aload_n 0, 1) := by decide +kernel
theorem dd_T_append_35 : decode b_T_append 35 = .ok (.getfield 15, 3) := by decide +kernel
theorem dd_T_append_38 : decode b_T_append 38 = .ok (.iastore, 1) := by decide +kernel
theorem dd_T_append_39 : decode b_T_append 39 = .ok (.aload_n 0, 1) := by decide +kernel
theorem dd_T_append_40 : decode b_T_append 40 = .ok (.dup, 1) := by decide +kernel
theorem dd_T_append_41 : decode b_T_append 41 = .ok (.getfield 23, 3) := by decide +kernel
theorem dd_T_append_44 : decode b_T_append 44 = .ok (.iconst 1, 1) := by decide +kernel
theorem dd_T_append_45 : decode b_T_append 45 = .ok (.iadd, 1) := by decide +kernel
theorem dd_T_append_46 : decode b_T_append 46 = .ok (.putfield 23, 3) := by decide +kernel
theorem dd_T_append_49 : decode b_T_append 49 = .ok (.aload_n 0, 1) := by decide +kernel
theorem dd_T_append_50 : decode b_T_append 50 = .ok (.getfield 11, 3) := by decide +kernel
theorem dd_T_append_53 : decode b_T_append 53 = .ok (.aload_n 0, 1) := by decide +kernel
theorem dd_T_append_54 : decode b_T_append 54 = .ok (.getfield 15, 3) := by decide +kernel
theorem dd_T_append_57 : decode b_T_append 57 = .ok (.iload_n 3, 1) := by decide +kernel
theorem dd_T_append_58 : decode b_T_append 58 = .ok (.i2b, 1) := by decide +kernel
theorem dd_T_append_59 : decode b_T_append 59 = .ok (.bastore, 1) := by decide +kernel
theorem dd_T_append_60 : decode b_T_append 60 = .ok (.aload_n 0, 1) := by decide +kernel
theorem dd_T_append_61 : decode b_T_append 61 = .ok (.dup, 1) := by decide +kernel
theorem dd_T_append_62 : decode b_T_append 62 = .ok (.getfield 15, 3) := by decide +kernel
theorem dd_T_append_65 : decode b_T_append 65 = .ok (.iconst 1, 1) := by decide +kernel
theorem dd_T_append_66 : decode b_T_append 66 = .ok (.iadd, 1) := by decide +kernel
theorem dd_T_append_67 : decode b_T_append 67 = .ok (.putfield 15, 3) := by decide +kernel
theorem dd_T_append_70 : decode b_T_append 70 = .ok (.iinc 2 (-8), 3) := by decide +kernel
theorem dd_T_append_73 : decode b_T_append 73 = .ok (.goto (-65), 3) := by decide +kernel
theorem dd_T_append_76 : decode b_T_append 76 = .ok (.return_, 1) := by decide +kernel
theorem dd_T_makeRoom_0 : decode b_T_makeRoom 0 = .ok (.aload_n 0, 1) := by decide +kernel
theorem dd_T_makeRoom_1 : decode b_T_makeRoom 1 = .ok (.getfield 15, 3) := by decide +kernel
theorem dd_T_makeRoom_4 : decode b_T_makeRoom 4 = .ok (.iload_n 1, 1) := by decide +kernel
theorem dd_T_makeRoom_5 : decode b_T_makeRoom 5 = .ok (.iadd, 1) := by decide +kernel
theorem dd_T_makeRoom_6 : decode b_T_makeRoom 6 = .ok (.aload_n 0, 1) := by decide +kernel
theorem dd_T_makeRoom_7 : decode b_T_makeRoom 7 = .ok (.getfield 11, 3) := by decide +kernel
theorem dd_T_makeRoom_10 : decode b_T_makeRoom 10 = .ok (.arraylength, 1) := by decide +kernel
theorem dd_T_makeRoom_11 : decode b_T_makeRoom 11 = .ok (.if_icmp .le 21, 3) := by decide +kernel
theorem dd_T_makeRoom_14 : decode b_T_makeRoom 14 = .ok (.aload_n 0, 1) := by decide +kernel
theorem dd_T_makeRoom_15 : decode b_T_makeRoom 15 = .ok (.aload_n 0, 1) := by decide +kernel
theorem dd_T_makeRoom_16 : decode b_T_makeRoom 16 = .ok (.getfield 11, 3) := by decide +kernel
theorem dd_T_makeRoom_19 : decode b_T_makeRoom 19 = .ok (.aload_n 0, 1) := by decide +kernel
theorem dd_T_makeRoom_20 : decode b_T_makeRoom 20 = .ok (.getfield 11, 3) := by decide +kernel
theorem dd_T_makeRoom_23 : decode b_T_makeRoom 23 = .ok (.arraylength, 1) := by decide +kernel
theorem dd_T_makeRoom_24 : decode b_T_makeRoom 24 = .ok (.iconst 2, 1) := by decide +kernel
theorem dd_T_makeRoom_25 : decode b_T_makeRoom 25 = .ok (.imul, 1) := by decide +kernel
theorem dd_T_makeRoom_26 : decode b_T_makeRoom 26 = .ok (.invokestatic 30, 3) := by decide +kernel
theorem dd_T_makeRoom_29 : decode b_T_makeRoom 29 = .ok (.putfield 11, 3) := by decide +kernel
theorem dd_T_makeRoom_32 : decode b_T_makeRoom 32 = .ok (.aload_n 0, 1) := by decide +kernel
theorem dd_T_makeRoom_33 : decode b_T_makeRoom 33 = .ok (.getfield 23, 3) := by decide +kernel
theorem dd_T_makeRoom_36 : decode b_T_makeRoom 36 = .ok (.iload_n 1, 1) := by decide +kernel
theorem dd_T_makeRoom_37 : decode b_T_makeRoom 37 = .ok (.iadd, 1) := by decide +kernel
theorem dd_T_makeRoom_38 : decode b_T_makeRoom 38 = .ok (.aload_n 0, 1) := by decide +kernel
theorem dd_T_makeRoom_39 : decode b_T_makeRoom 39 = .ok (.getfield 19, 3) := by decide +kernel
theorem dd_T_makeRoom_42 : decode b_T_makeRoom 42 = .ok (.arraylength, 1) := by decide +kernel
theorem dd_T_makeRoom_43 : decode b_T_makeRoom 43 = .ok (.if_icmp .le 21, 3) := by decide +kernel
theorem dd_T_makeRoom_46 : decode b_T_makeRoom 46 = .ok (.aload_n 0, 1) := by decide +kernel
theorem dd_T_makeRoom_47 : decode b_T_makeRoom 47 = .ok (.aload_n 0, 1) := by decide +kernel
theorem dd_T_makeRoom_48 : decode b_T_makeRoom 48 = .ok (.getfield 19, 3) := by decide +kernel
theorem dd_T_makeRoom_51 : decode b_T_makeRoom 51 = .ok (.aload_n 0, 1) := by decide +kernel
theorem dd_T_makeRoom_52 : decode b_T_makeRoom 52 = .ok (.getfield 19, 3) := by decide +kernel
theorem dd_T_makeRoom_55 : decode b_T_makeRoom 55 = .ok (.arraylength, 1) := by decide +kernel
theorem dd_T_makeRoom_56 : decode b_T_makeRoom 56 = .ok (.iconst 2, 1) := by decide +kernel
theorem dd_T_makeRoom_57 : decode b_T_makeRoom 57 = .ok (.imul, 1) := by decide +kernel
theorem dd_T_makeRoom_58 : decode b_T_makeRoom 58 = .ok (.invokestatic 36, 3) := by decide +kernel
theorem dd_T_makeRoom_61 : decode b_T_makeRoom 61 = .ok (.putfield 19, 3) := by decide +kernel
theorem dd_T_makeRoom_64 : decode b_T_makeRoom 64 = .ok (.return_, 1) := by decide +kernel
theorem dd_T_keepFirst_0 : decode b_T_keepFirst 0 = .ok (.aload_n 0, 1) := by decide +kernel
theorem dd_T_keepFirst_1 : decode b_T_keepFirst 1 = .ok (.iload_n 1, 1) := by decide +kernel
theorem dd_T_keepFirst_2 : decode b_T_keepFirst 2 = .ok (.putfield 15, 3) := by decide +kernel
theorem dd_T_keepFirst_5 : decode b_T_keepFirst 5 = .ok (.aload_n 0, 1) := by decide +kernel
theorem dd_T_keepFirst_6 : decode b_T_keepFirst 6 = .ok (.getfield 23, 3) := by decide +kernel
theorem dd_T_keepFirst_9 : decode b_T_keepFirst 9 = .ok (.ifCond .le 31, 3) := by decide +kernel
theorem dd_T_keepFirst_12 : decode b_T_keepFirst 12 = .ok (.aload_n 0, 1) := by decide +kernel
theorem dd_T_keepFirst_13 : decode b_T_keepFirst 13 = .ok (.getfield 19, 3) := by decide +kernel
theorem dd_T_keepFirst_16 : decode b_T_keepFirst 16 = .ok (.aload_n 0, 1) := by decide +kernel
theorem dd_T_keepFirst_17 : decode b_T_keepFirst 17 = .ok (.getfield 23, 3) := by decide +kernel
theorem dd_T_keepFirst_20 : decode b_T_keepFirst 20 = .ok (.iconst 1, 1) := by decide +kernel
theorem dd_T_keepFirst_21 : decode b_T_keepFirst 21 = .ok (.isub, 1) := by decide +kernel
theorem dd_T_keepFirst_22 : decode b_T_keepFirst 22 = .ok (.iaload, 1) := by decide +kernel
theorem dd_T_keepFirst_23 : decode b_T_keepFirst 23 = .ok (.iload_n 1, 1) := by decide +kernel
theorem dd_T_keepFirst_24 : decode b_T_keepFirst 24 = .ok (.if_icmp .lt 16, 3) := by decide +kernel
theorem dd_T_keepFirst_27 : decode b_T_keepFirst 27 = .ok (.aload_n 0, 1) := by decide +kernel
theorem dd_T_keepFirst_28 : decode b_T_keepFirst 28 = .ok (.dup, 1) := by decide +kernel
theorem dd_T_keepFirst_29 : decode b_T_keepFirst 29 = .ok (.getfield 23, 3) := by decide +kernel
theorem dd_T_keepFirst_32 : decode b_T_keepFirst 32 = .ok (.iconst 1, 1) := by decide +kernel
theorem dd_T_keepFirst_33 : decode b_T_keepFirst 33 = .ok (.isub, 1) := by decide +kernel
theorem dd_T_keepFirst_34 : decode b_T_keepFirst 34 = .ok (.putfield 23, 3) := by decide +kernel
theorem dd_T_keepFirst_37 : decode b_T_keepFirst 37 = .ok (.goto (-32), 3) := by decide +kernel
theorem dd_T_keepFirst_40 : decode b_T_keepFirst 40 = .ok (.return_, 1) := by decide +kernel
theorem dd_T_lineCount_0 : decode b_T_lineCount 0 = .ok (.aload_n 0, 1) := by decide +kernel
theorem dd_T_lineCount_1 : decode b_T_lineCount 1 = .ok (.aload_n 0, 1) := by decide +kernel
theorem dd_T_lineCount_2 : decode b_T_lineCount 2 = .ok (.getfield 23, 3) := by decide +kernel
theorem dd_T_lineCount_5 : decode b_T_lineCount 5 = .ok (.invokevirtual 39, 3) := by decide +kernel
theorem dd_T_lineCount_8 : decode b_T_lineCount 8 = .ok (.aload_n 0, 1) := by decide +kernel
theorem dd_T_lineCount_9 : decode b_T_lineCount 9 = .ok (.getfield 15, 3) := by decide +kernel
theorem dd_T_lineCount_12 : decode b_T_lineCount 12 = .ok (.if_icmp .ge 12, 3) := by decide +kernel
theorem dd_T_lineCount_15 : decode b_T_lineCount 15 = .ok (.aload_n 0, 1) := by decide +kernel
theorem dd_T_lineCount_16 : decode b_T_lineCount 16 = .ok (.getfield 23, 3) := by decide +kernel
theorem dd_T_lineCount_19 : decode b_T_lineCount 19 = .ok (.iconst 1, 1) := by decide +kernel
theorem dd_T_lineCount_20 : decode b_T_lineCount 20 = .ok (.iadd, 1) := by decide +kernel
theorem dd_T_lineCount_21 : decode b_T_lineCount 21 = .ok (.goto 7, 3) := by decide +kernel
theorem dd_T_lineCount_24 : decode b_T_lineCount 24 = .ok (.aload_n 0, 1) := by decide +kernel
theorem dd_T_lineCount_25 : decode b_T_lineCount 25 = .ok (.getfield 23, 3) := by decide +kernel
theorem dd_T_lineCount_28 : decode b_T_lineCount 28 = .ok (.ireturn, 1) := by decide +kernel
theorem dd_T_startOf_0 : decode b_T_startOf 0 = .ok (.iload_n 1, 1) := by decide +kernel
theorem dd_T_startOf_1 : decode b_T_startOf 1 = .ok (.ifCond .le 16, 3) := by decide +kernel
theorem dd_T_startOf_4 : decode b_T_startOf 4 = .ok (.aload_n 0, 1) := by decide +kernel
theorem dd_T_startOf_5 : decode b_T_startOf 5 = .ok (.getfield 19, 3) := by decide +kernel
theorem dd_T_startOf_8 : decode b_T_startOf 8 = .ok (.iload_n 1, 1) := by decide +kernel
theorem dd_T_startOf_9 : decode b_T_startOf 9 = .ok (.iconst 1, 1) := by decide +kernel
theorem dd_T_startOf_10 : decode b_T_startOf 10 = .ok (.isub, 1) := by decide +kernel
theorem dd_T_startOf_11 : decode b_T_startOf 11 = .ok (.iaload, 1) := by decide +kernel
theorem dd_T_startOf_12 : decode b_T_startOf 12 = .ok (.iconst 1, 1) := by decide +kernel
theorem dd_T_startOf_13 : decode b_T_startOf 13 = .ok (.iadd, 1) := by decide +kernel
theorem dd_T_startOf_14 : decode b_T_startOf 14 = .ok (.goto 4, 3) := by decide +kernel
theorem dd_T_startOf_17 : decode b_T_startOf 17 = .ok (.iconst 0, 1) := by decide +kernel
theorem dd_T_startOf_18 : decode b_T_startOf 18 = .ok (.ireturn, 1) := by decide +kernel
theorem dd_T_stopOf_0 : decode b_T_stopOf 0 = .ok (.iload_n 1, 1) := by decide +kernel
theorem dd_T_stopOf_1 : decode b_T_stopOf 1 = .ok (.aload_n 0, 1) := by decide +kernel
theorem dd_T_stopOf_2 : decode b_T_stopOf 2 = .ok (.getfield 23, 3) := by decide +kernel
theorem dd_T_stopOf_5 : decode b_T_stopOf 5 = .ok (.if_icmp .ge 12, 3) := by decide +kernel
theorem dd_T_stopOf_8 : decode b_T_stopOf 8 = .ok (.aload_n 0, 1) := by decide +kernel
theorem dd_T_stopOf_9 : decode b_T_stopOf 9 = .ok (.getfield 19, 3) := by decide +kernel
theorem dd_T_stopOf_12 : decode b_T_stopOf 12 = .ok (.iload_n 1, 1) := by decide +kernel
theorem dd_T_stopOf_13 : decode b_T_stopOf 13 = .ok (.iaload, 1) := by decide +kernel
theorem dd_T_stopOf_14 : decode b_T_stopOf 14 = .ok (.goto 7, 3) := by decide +kernel
theorem dd_T_stopOf_17 : decode b_T_stopOf 17 = .ok (.aload_n 0, 1) := by decide +kernel
theorem dd_T_stopOf_18 : decode b_T_stopOf 18 = .ok (.getfield 15, 3) := by decide +kernel
theorem dd_T_stopOf_21 : decode b_T_stopOf 21 = .ok (.ireturn, 1) := by decide +kernel
theorem dd_T_at_0 : decode b_T_at 0 = .ok (.aload_n 0, 1) := by decide +kernel
theorem dd_T_at_1 : decode b_T_at 1 = .ok (.getfield 11, 3) := by decide +kernel
theorem dd_T_at_4 : decode b_T_at 4 = .ok (.iload_n 1, 1) := by decide +kernel
theorem dd_T_at_5 : decode b_T_at 5 = .ok (.baload, 1) := by decide +kernel
theorem dd_T_at_6 : decode b_T_at 6 = .ok (.sipush 255, 3) := by decide +kernel
theorem dd_T_at_9 : decode b_T_at 9 = .ok (.iand, 1) := by decide +kernel
theorem dd_T_at_10 : decode b_T_at 10 = .ok (.ireturn, 1) := by decide +kernel
theorem dd_T_isBlankAt_0 : decode b_T_isBlankAt 0 = .ok (.aload_n 0, 1) := by decide +kernel
theorem dd_T_isBlankAt_1 : decode b_T_isBlankAt 1 = .ok (.getfield 11, 3) := by decide +kernel
theorem dd_T_isBlankAt_4 : decode b_T_isBlankAt 4 = .ok (.iload_n 1, 1) := by decide +kernel
theorem dd_T_isBlankAt_5 : decode b_T_isBlankAt 5 = .ok (.baload, 1) := by decide +kernel
theorem dd_T_isBlankAt_6 : decode b_T_isBlankAt 6 = .ok (.bipush 32, 2) := by decide +kernel
theorem dd_T_isBlankAt_8 : decode b_T_isBlankAt 8 = .ok (.if_icmp .eq 14, 3) := by decide +kernel
theorem dd_T_isBlankAt_11 : decode b_T_isBlankAt 11 = .ok (.aload_n 0, 1) := by decide +kernel
theorem dd_T_isBlankAt_12 : decode b_T_isBlankAt 12 = .ok (.getfield 11, 3) := by decide +kernel
theorem dd_T_isBlankAt_15 : decode b_T_isBlankAt 15 = .ok (.iload_n 1, 1) := by decide +kernel
theorem dd_T_isBlankAt_16 : decode b_T_isBlankAt 16 = .ok (.baload, 1) := by decide +kernel
theorem dd_T_isBlankAt_17 : decode b_T_isBlankAt 17 = .ok (.bipush 9, 2) := by decide +kernel
theorem dd_T_isBlankAt_19 : decode b_T_isBlankAt 19 = .ok (.if_icmp .ne 7, 3) := by decide +kernel
theorem dd_T_isBlankAt_22 : decode b_T_isBlankAt 22 = .ok (.iconst 1, 1) := by decide +kernel
theorem dd_T_isBlankAt_23 : decode b_T_isBlankAt 23 = .ok (.goto 4, 3) := by decide +kernel
theorem dd_T_isBlankAt_26 : decode b_T_isBlankAt 26 = .ok (.iconst 0, 1) := by decide +kernel
theorem dd_T_isBlankAt_27 : decode b_T_isBlankAt 27 = .ok (.ireturn, 1) := by decide +kernel
theorem dd_T_passDigits_0 : decode b_T_passDigits 0 = .ok (.iload_n 1, 1) := by decide +kernel
theorem dd_T_passDigits_1 : decode b_T_passDigits 1 = .ok (.istore_n 3, 1) := by decide +kernel
theorem dd_T_passDigits_2 : decode b_T_passDigits 2 = .ok (.iload_n 3, 1) := by decide +kernel
theorem dd_T_passDigits_3 : decode b_T_passDigits 3 = .ok (.iload_n 2, 1) := by decide +kernel
theorem dd_T_passDigits_4 : decode b_T_passDigits 4 = .ok (.if_icmp .ge 31, 3) := by decide +kernel
theorem dd_T_passDigits_7 : decode b_T_passDigits 7 = .ok (.aload_n 0, 1) := by decide +kernel
theorem dd_T_passDigits_8 : decode b_T_passDigits 8 = .ok (.getfield 11, 3) := by decide +kernel
theorem dd_T_passDigits_11 : decode b_T_passDigits 11 = .ok (.iload_n 3, 1) := by decide +kernel
theorem dd_T_passDigits_12 : decode b_T_passDigits 12 = .ok (.baload, 1) := by decide +kernel
theorem dd_T_passDigits_13 : decode b_T_passDigits 13 = .ok (.bipush 48, 2) := by decide +kernel
theorem dd_T_passDigits_15 : decode b_T_passDigits 15 = .ok (.if_icmp .lt 20, 3) := by decide +kernel
theorem dd_T_passDigits_18 : decode b_T_passDigits 18 = .ok (.aload_n 0, 1) := by decide +kernel
theorem dd_T_passDigits_19 : decode b_T_passDigits 19 = .ok (.getfield 11, 3) := by decide +kernel
theorem dd_T_passDigits_22 : decode b_T_passDigits 22 = .ok (.iload_n 3, 1) := by decide +kernel
theorem dd_T_passDigits_23 : decode b_T_passDigits 23 = .ok (.baload, 1) := by decide +kernel
theorem dd_T_passDigits_24 : decode b_T_passDigits 24 = .ok (.bipush 57, 2) := by decide +kernel
theorem dd_T_passDigits_26 : decode b_T_passDigits 26 = .ok (.if_icmp .gt 9, 3) := by decide +kernel
theorem dd_T_passDigits_29 : decode b_T_passDigits 29 = .ok (.iinc 3 1, 3) := by decide +kernel
theorem dd_T_passDigits_32 : decode b_T_passDigits 32 = .ok (.goto (-30), 3) := by decide +kernel
theorem dd_T_passDigits_35 : decode b_T_passDigits 35 = .ok (.iload_n 3, 1) := by decide +kernel
theorem dd_T_passDigits_36 : decode b_T_passDigits 36 = .ok (.ireturn, 1) := by decide +kernel
theorem dd_T_comparedBytes_0 : decode b_T_comparedBytes 0 = .ok (.iload_n 1, 1) := by decide +kernel
theorem dd_T_comparedBytes_1 : decode b_T_comparedBytes 1 = .ok (.istore 6, 2) := by decide +kernel
theorem dd_T_comparedBytes_3 : decode b_T_comparedBytes 3 = .ok (.iload_n 3, 1) := by decide +kernel
theorem dd_T_comparedBytes_4 : decode b_T_comparedBytes 4 = .ok (.istore 7, 2) := by decide +kernel
theorem dd_T_comparedBytes_6 : decode b_T_comparedBytes 6 = .ok (.iload 6, 2) := by decide +kernel
theorem dd_T_comparedBytes_8 : decode b_T_comparedBytes 8 = .ok (.iload_n 2, 1) := by decide +kernel
theorem dd_T_comparedBytes_9 : decode b_T_comparedBytes 9 = .ok (.if_icmp .lt 10, 3) := by decide +kernel
theorem dd_T_comparedBytes_12 : decode b_T_comparedBytes 12 = .ok (.iload 7, 2) := by decide +kernel
theorem dd_T_comparedBytes_14 : decode b_T_comparedBytes 14 = .ok (.iload 4, 2) := by decide +kernel
theorem dd_T_comparedBytes_16 : decode b_T_comparedBytes 16 = .ok (.if_icmp .ge 105, 3) := by decide +kernel
theorem dd_T_comparedBytes_19 : decode b_T_comparedBytes 19 = .ok (.iload 6, 2) := by decide +kernel
theorem dd_T_comparedBytes_21 : decode b_T_comparedBytes 21 = .ok (.iload_n 2, 1) := by decide +kernel
theorem dd_T_comparedBytes_22 : decode b_T_comparedBytes 22 = .ok (.if_icmp .ge 17, 3) := by decide +kernel
theorem dd_T_comparedBytes_25 : decode b_T_comparedBytes 25 = .ok (.aload_n 0, 1) := by decide +kernel
theorem dd_T_comparedBytes_26 : decode b_T_comparedBytes 26 = .ok (.iload 6, 2) := by decide +kernel
theorem dd_T_comparedBytes_28 : decode b_T_comparedBytes 28 = .ok (.invokevirtual 43, 3) := by decide +kernel
theorem dd_T_comparedBytes_31 : decode b_T_comparedBytes 31 = .ok (.iload 5, 2) := by decide +kernel
theorem dd_T_comparedBytes_33 : decode b_T_comparedBytes 33 = .ok (.invokestatic 46, 3) := by decide +kernel
theorem dd_T_comparedBytes_36 : decode b_T_comparedBytes 36 = .ok (.goto 4, 3) := by decide +kernel
theorem dd_T_comparedBytes_39 : decode b_T_comparedBytes 39 = .ok (.iconst (-1), 1) := by decide +kernel
theorem dd_T_comparedBytes_40 : decode b_T_comparedBytes 40 = .ok (.istore 8, 2) := by decide +kernel
theorem dd_T_comparedBytes_42 : decode b_T_comparedBytes 42 = .ok (.iload 7, 2) := by decide +kernel
theorem dd_T_comparedBytes_44 : decode b_T_comparedBytes 44 = .ok (.iload 4, 2) := by decide +kernel
theorem dd_T_comparedBytes_46 : decode b_T_comparedBytes 46 = .ok (.if_icmp .ge 17, 3) := by decide +kernel
theorem dd_T_comparedBytes_49 : decode b_T_comparedBytes 49 = .ok (.aload_n 0, 1) := by decide +kernel
theorem dd_T_comparedBytes_50 : decode b_T_comparedBytes 50 = .ok (.iload 7, 2) := by decide +kernel
theorem dd_T_comparedBytes_52 : decode b_T_comparedBytes 52 = .ok (.invokevirtual 43, 3) := by decide +kernel
theorem dd_T_comparedBytes_55 : decode b_T_comparedBytes 55 = .ok (.iload 5, 2) := by decide +kernel
theorem dd_T_comparedBytes_57 : decode b_T_comparedBytes 57 = .ok (.invokestatic 46, 3) := by decide +kernel
theorem dd_T_comparedBytes_60 : decode b_T_comparedBytes 60 = .ok (.goto 4, 3) := by decide +kernel
theorem dd_T_comparedBytes_63 : decode b_T_comparedBytes 63 = .ok (.iconst (-1), 1) := by decide +kernel
theorem dd_T_comparedBytes_64 : decode b_T_comparedBytes 64 = .ok (.istore 9, 2) := by decide +kernel
theorem dd_T_comparedBytes_66 : decode b_T_comparedBytes 66 = .ok (.iload 8, 2) := by decide +kernel
theorem dd_T_comparedBytes_68 : decode b_T_comparedBytes 68 = .ok (.bipush (-2), 2) := by decide +kernel
theorem dd_T_comparedBytes_70 : decode b_T_comparedBytes 70 = .ok (.if_icmp .ne 9, 3) := by decide +kernel
theorem dd_T_comparedBytes_73 : decode b_T_comparedBytes 73 = .ok (.iinc 6 1, 3) := by decide +kernel
theorem dd_T_comparedBytes_76 : decode b_T_comparedBytes 76 = .ok (.goto 42, 3) := by decide +kernel
theorem dd_T_comparedBytes_79 : decode b_T_comparedBytes 79 = .ok (.iload 9, 2) := by decide +kernel
theorem dd_T_comparedBytes_81 : decode b_T_comparedBytes 81 = .ok (.bipush (-2), 2) := by decide +kernel
theorem dd_T_comparedBytes_83 : decode b_T_comparedBytes 83 = .ok (.if_icmp .ne 9, 3) := by decide +kernel
theorem dd_T_comparedBytes_86 : decode b_T_comparedBytes 86 = .ok (.iinc 7 1, 3) := by decide +kernel
theorem dd_T_comparedBytes_89 : decode b_T_comparedBytes 89 = .ok (.goto 29, 3) := by decide +kernel
theorem dd_T_comparedBytes_92 : decode b_T_comparedBytes 92 = .ok (.iload 8, 2) := by decide +kernel
theorem dd_T_comparedBytes_94 : decode b_T_comparedBytes 94 = .ok (.iload 9, 2) := by decide +kernel
theorem dd_T_comparedBytes_96 : decode b_T_comparedBytes 96 = .ok (.if_icmp .eq 16, 3) := by decide +kernel
theorem dd_T_comparedBytes_99 : decode b_T_comparedBytes 99 = .ok (.iload 8, 2) := by decide +kernel
theorem dd_T_comparedBytes_101 : decode b_T_comparedBytes 101 = .ok (.iload 9, 2) := by decide +kernel
theorem dd_T_comparedBytes_103 : decode b_T_comparedBytes 103 = .ok (.if_icmp .ge 7, 3) := by decide +kernel
theorem dd_T_comparedBytes_106 : decode b_T_comparedBytes 106 = .ok (.iconst (-1), 1) := by decide +kernel
theorem dd_T_comparedBytes_107 : decode b_T_comparedBytes 107 = .ok (.goto 4, 3) := by decide +kernel
theorem dd_T_comparedBytes_110 : decode b_T_comparedBytes 110 = .ok (.iconst 1, 1) := by decide +kernel
theorem dd_T_comparedBytes_111 : decode b_T_comparedBytes 111 = .ok (.ireturn, 1) := by decide +kernel
theorem dd_T_comparedBytes_112 : decode b_T_comparedBytes 112 = .ok (.iinc 6 1, 3) := by decide +kernel
theorem dd_T_comparedBytes_115 : decode b_T_comparedBytes 115 = .ok (.iinc 7 1, 3) := by decide +kernel
theorem dd_T_comparedBytes_118 : decode b_T_comparedBytes 118 = .ok (.goto (-112), 3) := by decide +kernel
theorem dd_T_comparedBytes_121 : decode b_T_comparedBytes 121 = .ok (.iconst 0, 1) := by decide +kernel
theorem dd_T_comparedBytes_122 : decode b_T_comparedBytes 122 = .ok (.ireturn, 1) := by decide +kernel
theorem dd_T_weightOf_0 : decode b_T_weightOf 0 = .ok (.iload_n 1, 1) := by decide +kernel
theorem dd_T_weightOf_1 : decode b_T_weightOf 1 = .ok (.bipush 8, 2) := by decide +kernel
theorem dd_T_weightOf_3 : decode b_T_weightOf 3 = .ok (.iand, 1) := by decide +kernel
theorem dd_T_weightOf_4 : decode b_T_weightOf 4 = .ok (.ifCond .eq 18, 3) := by decide +kernel
theorem dd_T_weightOf_7 : decode b_T_weightOf 7 = .ok (.iload_n 0, 1) := by decide +kernel
theorem dd_T_weightOf_8 : decode b_T_weightOf 8 = .ok (.bipush 32, 2) := by decide +kernel
theorem dd_T_weightOf_10 : decode b_T_weightOf 10 = .ok (.if_icmp .lt 9, 3) := by decide +kernel
theorem dd_T_weightOf_13 : decode b_T_weightOf 13 = .ok (.iload_n 0, 1) := by decide +kernel
theorem dd_T_weightOf_14 : decode b_T_weightOf 14 = .ok (.bipush 126, 2) := by decide +kernel
theorem dd_T_weightOf_16 : decode b_T_weightOf 16 = .ok (.if_icmp .le 6, 3) := by decide +kernel
theorem dd_T_weightOf_19 : decode b_T_weightOf 19 = .ok (.bipush (-2), 2) := by decide +kernel
theorem dd_T_weightOf_21 : decode b_T_weightOf 21 = .ok (.ireturn, 1) := by decide +kernel
theorem dd_T_weightOf_22 : decode b_T_weightOf 22 = .ok (.iload_n 0, 1) := by decide +kernel
theorem dd_T_weightOf_23 : decode b_T_weightOf 23 = .ok (.bipush 97, 2) := by decide +kernel
theorem dd_T_weightOf_25 : decode b_T_weightOf 25 = .ok (.if_icmp .lt 13, 3) := by decide +kernel
theorem dd_T_weightOf_28 : decode b_T_weightOf 28 = .ok (.iload_n 0, 1) := by decide +kernel
theorem dd_T_weightOf_29 : decode b_T_weightOf 29 = .ok (.bipush 122, 2) := by decide +kernel
theorem dd_T_weightOf_31 : decode b_T_weightOf 31 = .ok (.if_icmp .gt 7, 3) := by decide +kernel
theorem dd_T_weightOf_34 : decode b_T_weightOf 34 = .ok (.iconst 1, 1) := by decide +kernel
theorem dd_T_weightOf_35 : decode b_T_weightOf 35 = .ok (.goto 4, 3) := by decide +kernel
theorem dd_T_weightOf_38 : decode b_T_weightOf 38 = .ok (.iconst 0, 1) := by decide +kernel
theorem dd_T_weightOf_39 : decode b_T_weightOf 39 = .ok (.istore_n 2, 1) := by decide +kernel
theorem dd_T_weightOf_40 : decode b_T_weightOf 40 = .ok (.iload_n 1, 1) := by decide +kernel
theorem dd_T_weightOf_41 : decode b_T_weightOf 41 = .ok (.iconst 2, 1) := by decide +kernel
theorem dd_T_weightOf_42 : decode b_T_weightOf 42 = .ok (.iand, 1) := by decide +kernel
theorem dd_T_weightOf_43 : decode b_T_weightOf 43 = .ok (.ifCond .eq 80, 3) := by decide +kernel
theorem dd_T_weightOf_46 : decode b_T_weightOf 46 = .ok (.iload_n 0, 1) := by decide +kernel
theorem dd_T_weightOf_47 : decode b_T_weightOf 47 = .ok (.bipush 32, 2) := by decide +kernel
theorem dd_T_weightOf_49 : decode b_T_weightOf 49 = .ok (.if_icmp .eq 9, 3) := by decide +kernel
theorem dd_T_weightOf_52 : decode b_T_weightOf 52 = .ok (.iload_n 0, 1) := by decide +kernel
theorem dd_T_weightOf_53 : decode b_T_weightOf 53 = .ok (.bipush 9, 2) := by decide +kernel
theorem dd_T_weightOf_55 : decode b_T_weightOf 55 = .ok (.if_icmp .ne 7, 3) := by decide +kernel
theorem dd_T_weightOf_58 : decode b_T_weightOf 58 = .ok (.iconst 1, 1) := by decide +kernel
theorem dd_T_weightOf_59 : decode b_T_weightOf 59 = .ok (.goto 4, 3) := by decide +kernel
theorem dd_T_weightOf_62 : decode b_T_weightOf 62 = .ok (.iconst 0, 1) := by decide +kernel
theorem dd_T_weightOf_63 : decode b_T_weightOf 63 = .ok (.istore_n 3, 1) := by decide +kernel
theorem dd_T_weightOf_64 : decode b_T_weightOf 64 = .ok (.iload_n 0, 1) := by decide +kernel
theorem dd_T_weightOf_65 : decode b_T_weightOf 65 = .ok (.bipush 65, 2) := by decide +kernel
theorem dd_T_weightOf_67 : decode b_T_weightOf 67 = .ok (.if_icmp .lt 13, 3) := by decide +kernel
theorem dd_T_weightOf_70 : decode b_T_weightOf 70 = .ok (.iload_n 0, 1) := by decide +kernel
theorem dd_T_weightOf_71 : decode b_T_weightOf 71 = .ok (.bipush 90, 2) := by decide +kernel
theorem dd_T_weightOf_73 : decode b_T_weightOf 73 = .ok (.if_icmp .gt 7, 3) := by decide +kernel
theorem dd_T_weightOf_76 : decode b_T_weightOf 76 = .ok (.iconst 1, 1) := by decide +kernel
theorem dd_T_weightOf_77 : decode b_T_weightOf 77 = .ok (.goto 4, 3) := by decide +kernel
theorem dd_T_weightOf_80 : decode b_T_weightOf 80 = .ok (.iconst 0, 1) := by decide +kernel
theorem dd_T_weightOf_81 : decode b_T_weightOf 81 = .ok (.istore 4, 2) := by decide +kernel
theorem dd_T_weightOf_83 : decode b_T_weightOf 83 = .ok (.iload_n 0, 1) := by decide +kernel
theorem dd_T_weightOf_84 : decode b_T_weightOf 84 = .ok (.bipush 48, 2) := by decide +kernel
theorem dd_T_weightOf_86 : decode b_T_weightOf 86 = .ok (.if_icmp .lt 13, 3) := by decide +kernel
theorem dd_T_weightOf_89 : decode b_T_weightOf 89 = .ok (.iload_n 0, 1) := by decide +kernel
theorem dd_T_weightOf_90 : decode b_T_weightOf 90 = .ok (.bipush 57, 2) := by decide +kernel
theorem dd_T_weightOf_92 : decode b_T_weightOf 92 = .ok (.if_icmp .gt 7, 3) := by decide +kernel
theorem dd_T_weightOf_95 : decode b_T_weightOf 95 = .ok (.iconst 1, 1) := by decide +kernel
theorem dd_T_weightOf_96 : decode b_T_weightOf 96 = .ok (.goto 4, 3) := by decide +kernel
theorem dd_T_weightOf_99 : decode b_T_weightOf 99 = .ok (.iconst 0, 1) := by decide +kernel
theorem dd_T_weightOf_100 : decode b_T_weightOf 100 = .ok (.istore 5, 2) := by decide +kernel
theorem dd_T_weightOf_102 : decode b_T_weightOf 102 = .ok (.iload_n 3, 1) := by decide +kernel
theorem dd_T_weightOf_103 : decode b_T_weightOf 103 = .ok (.ifCond .ne 20, 3) := by decide +kernel
theorem dd_T_weightOf_106 : decode b_T_weightOf 106 = .ok (.iload_n 2, 1) := by decide +kernel
theorem dd_T_weightOf_107 : decode b_T_weightOf 107 = .ok (.ifCond .ne 16, 3) := by decide +kernel
theorem dd_T_weightOf_110 : decode b_T_weightOf 110 = .ok (.iload 4, 2) := by decide +kernel
theorem dd_T_weightOf_112 : decode b_T_weightOf 112 = .ok (.ifCond .ne 11, 3) := by decide +kernel
theorem dd_T_weightOf_115 : decode b_T_weightOf 115 = .ok (.iload 5, 2) := by decide +kernel
theorem dd_T_weightOf_117 : decode b_T_weightOf 117 = .ok (.ifCond .ne 6, 3) := by decide +kernel
theorem dd_T_weightOf_120 : decode b_T_weightOf 120 = .ok (.bipush (-2), 2) := by decide +kernel
theorem dd_T_weightOf_122 : decode b_T_weightOf 122 = .ok (.ireturn, 1) := by decide +kernel
theorem dd_T_weightOf_123 : decode b_T_weightOf 123 = .ok (.iload_n 2, 1) := by decide +kernel
theorem dd_T_weightOf_124 : decode b_T_weightOf 124 = .ok (.ifCond .eq 19, 3) := by decide +kernel
theorem dd_T_weightOf_127 : decode b_T_weightOf 127 = .ok (.iload_n 1, 1) := by decide +kernel
theorem dd_T_weightOf_128 : decode b_T_weightOf 128 = .ok (.iconst 4, 1) := by decide +kernel
theorem dd_T_weightOf_129 : decode b_T_weightOf 129 = .ok (.iand, 1) := by decide +kernel
theorem dd_T_weightOf_130 : decode b_T_weightOf 130 = .ok (.ifCond .eq 13, 3) := by decide +kernel
theorem dd_T_weightOf_133 : decode b_T_weightOf 133 = .ok (.iload_n 0, 1) := by decide +kernel
theorem dd_T_weightOf_134 : decode b_T_weightOf 134 = .ok (.bipush 97, 2) := by decide +kernel
theorem dd_T_weightOf_136 : decode b_T_weightOf 136 = .ok (.isub, 1) := by decide +kernel
theorem dd_T_weightOf_137 : decode b_T_weightOf 137 = .ok (.bipush 65, 2) := by decide +kernel
theorem dd_T_weightOf_139 : decode b_T_weightOf 139 = .ok (.iadd, 1) := by decide +kernel
theorem dd_T_weightOf_140 : decode b_T_weightOf 140 = .ok (.goto 4, 3) := by decide +kernel
theorem dd_T_weightOf_143 : decode b_T_weightOf 143 = .ok (.iload_n 0, 1) := by decide +kernel
theorem dd_T_weightOf_144 : decode b_T_weightOf 144 = .ok (.ireturn, 1) := by decide +kernel
theorem dd_L_feed_0 : decode b_L_feed 0 = .ok (.aload 6, 2) := by decide +kernel
theorem dd_L_feed_2 : decode b_L_feed 2 = .ok (.iconst 0, 1) := by decide +kernel
theorem dd_L_feed_3 : decode b_L_feed 3 = .ok (.aload_n 0, 1) := by decide +kernel
theorem dd_L_feed_4 : decode b_L_feed 4 = .ok (.iload_n 1, 1) := by decide +kernel
theorem dd_L_feed_5 : decode b_L_feed 5 = .ok (.iload_n 2, 1) := by decide +kernel
theorem dd_L_feed_6 : decode b_L_feed 6 = .ok (.iload_n 3, 1) := by decide +kernel
theorem dd_L_feed_7 : decode b_L_feed 7 = .ok (.iload 4, 2) := by decide +kernel
theorem dd_L_feed_9 : decode b_L_feed 9 = .ok (.iload 5, 2) := by decide +kernel
theorem dd_L_feed_11 : decode b_L_feed 11 = .ok (.invokevirtual 7, 3) := by decide +kernel
theorem dd_L_feed_14 : decode b_L_feed 14 = .ok (.i2l, 1) := by decide +kernel
theorem dd_L_feed_15 : decode b_L_feed 15 = .ok (.lastore, 1) := by decide +kernel
theorem dd_L_feed_16 : decode b_L_feed 16 = .ok (.goto 7, 3) := by decide +kernel
theorem dd_L_feed_19 : decode b_L_feed 19 = .ok (.astore 7, 2) := by decide +kernel
theorem dd_L_feed_21 : decode b_L_feed 21 = .ok (.iconst 1, 1) := by decide +kernel
theorem dd_L_feed_22 : decode b_L_feed 22 = .ok (.ireturn, 1) := by decide +kernel
theorem dd_L_feed_23 : decode b_L_feed 23 = .ok (.iconst 0, 1) := by decide +kernel
theorem dd_L_feed_24 : decode b_L_feed 24 = .ok (.ireturn, 1) := by decide +kernel
theorem dd_L_end_0 : decode b_L_end 0 = .ok (.aload_n 0, 1) := by decide +kernel
theorem dd_L_end_1 : decode b_L_end 1 = .ok (.iload_n 1, 1) := by decide +kernel
theorem dd_L_end_2 : decode b_L_end 2 = .ok (.invokevirtual 15, 3) := by decide +kernel
theorem dd_L_end_5 : decode b_L_end 5 = .ok (.goto 6, 3) := by decide +kernel
theorem dd_L_end_8 : decode b_L_end 8 = .ok (.astore_n 2, 1) := by decide +kernel
theorem dd_L_end_9 : decode b_L_end 9 = .ok (.iconst 1, 1) := by decide +kernel
theorem dd_L_end_10 : decode b_L_end 10 = .ok (.ireturn, 1) := by decide +kernel
theorem dd_L_end_11 : decode b_L_end 11 = .ok (.iconst 0, 1) := by decide +kernel
theorem dd_L_end_12 : decode b_L_end 12 = .ok (.ireturn, 1) := by decide +kernel
theorem dd_L_ways_0 : decode b_L_ways 0 = .ok (.aload_n 0, 1) := by decide +kernel
theorem dd_L_ways_1 : decode b_L_ways 1 = .ok (.iload_n 1, 1) := by decide +kernel
theorem dd_L_ways_2 : decode b_L_ways 2 = .ok (.iload_n 2, 1) := by decide +kernel
theorem dd_L_ways_3 : decode b_L_ways 3 = .ok (.iload_n 3, 1) := by decide +kernel
theorem dd_L_ways_4 : decode b_L_ways 4 = .ok (.invokevirtual 21, 3) := by decide +kernel
theorem dd_L_ways_7 : decode b_L_ways 7 = .ok (.goto 7, 3) := by decide +kernel
theorem dd_L_ways_10 : decode b_L_ways 10 = .ok (.astore 4, 2) := by decide +kernel
theorem dd_L_ways_12 : decode b_L_ways 12 = .ok (.iconst 1, 1) := by decide +kernel
theorem dd_L_ways_13 : decode b_L_ways 13 = .ok (.ireturn, 1) := by decide +kernel
theorem dd_L_ways_14 : decode b_L_ways 14 = .ok (.iconst 0, 1) := by decide +kernel
theorem dd_L_ways_15 : decode b_L_ways 15 = .ok (.ireturn, 1) := by decide +kernel
theorem dd_L_separator_0 : decode b_L_separator 0 = .ok (.aload_n 0, 1) := by decide +kernel
theorem dd_L_separator_1 : decode b_L_separator 1 = .ok (.iload_n 1, 1) := by decide +kernel
theorem dd_L_separator_2 : decode b_L_separator 2 = .ok (.invokevirtual 25, 3) := by decide +kernel
theorem dd_L_separator_5 : decode b_L_separator 5 = .ok (.goto 6, 3) := by decide +kernel
theorem dd_L_separator_8 : decode b_L_separator 8 = .ok (.astore_n 2, 1) := by decide +kernel
theorem dd_L_separator_9 : decode b_L_separator 9 = .ok (.iconst 1, 1) := by decide +kernel
theorem dd_L_separator_10 : decode b_L_separator 10 = .ok (.ireturn, 1) := by decide +kernel
theorem dd_L_separator_11 : decode b_L_separator 11 = .ok (.iconst 0, 1) := by decide +kernel
theorem dd_L_separator_12 : decode b_L_separator 12 = .ok (.ireturn, 1) := by decide +kernel
theorem dd_L_key_0 : decode b_L_key 0 = .ok (.aload 6, 2) := by decide +kernel
theorem dd_L_key_2 : decode b_L_key 2 = .ok (.iconst 0, 1) := by decide +kernel
theorem dd_L_key_3 : decode b_L_key 3 = .ok (.aload_n 0, 1) := by decide +kernel
theorem dd_L_key_4 : decode b_L_key 4 = .ok (.iload_n 1, 1) := by decide +kernel
theorem dd_L_key_5 : decode b_L_key 5 = .ok (.iload_n 2, 1) := by decide +kernel
theorem dd_L_key_6 : decode b_L_key 6 = .ok (.iload_n 3, 1) := by decide +kernel
theorem dd_L_key_7 : decode b_L_key 7 = .ok (.iload 4, 2) := by decide +kernel
theorem dd_L_key_9 : decode b_L_key 9 = .ok (.iload 5, 2) := by decide +kernel
theorem dd_L_key_11 : decode b_L_key 11 = .ok (.invokevirtual 28, 3) := by decide +kernel
theorem dd_L_key_14 : decode b_L_key 14 = .ok (.i2l, 1) := by decide +kernel
theorem dd_L_key_15 : decode b_L_key 15 = .ok (.lastore, 1) := by decide +kernel
theorem dd_L_key_16 : decode b_L_key 16 = .ok (.goto 11, 3) := by decide +kernel
theorem dd_L_key_19 : decode b_L_key 19 = .ok (.astore 7, 2) := by decide +kernel
theorem dd_L_key_21 : decode b_L_key 21 = .ok (.iconst 1, 1) := by decide +kernel
theorem dd_L_key_22 : decode b_L_key 22 = .ok (.ireturn, 1) := by decide +kernel
theorem dd_L_key_23 : decode b_L_key 23 = .ok (.astore 7, 2) := by decide +kernel
theorem dd_L_key_25 : decode b_L_key 25 = .ok (.iconst 2, 1) := by decide +kernel
theorem dd_L_key_26 : decode b_L_key 26 = .ok (.ireturn, 1) := by decide +kernel
theorem dd_L_key_27 : decode b_L_key 27 = .ok (.iconst 0, 1) := by decide +kernel
theorem dd_L_key_28 : decode b_L_key 28 = .ok (.ireturn, 1) := by decide +kernel
theorem dd_L_memory_0 : decode b_L_memory 0 = .ok (.aload_n 0, 1) := by decide +kernel
theorem dd_L_memory_1 : decode b_L_memory 1 = .ok (.iload_n 1, 1) := by decide +kernel
theorem dd_L_memory_2 : decode b_L_memory 2 = .ok (.iload_n 2, 1) := by decide +kernel
theorem dd_L_memory_3 : decode b_L_memory 3 = .ok (.invokevirtual 33, 3) := by decide +kernel
theorem dd_L_memory_6 : decode b_L_memory 6 = .ok (.goto 6, 3) := by decide +kernel
theorem dd_L_memory_9 : decode b_L_memory 9 = .ok (.astore_n 3, 1) := by decide +kernel
theorem dd_L_memory_10 : decode b_L_memory 10 = .ok (.iconst 1, 1) := by decide +kernel
theorem dd_L_memory_11 : decode b_L_memory 11 = .ok (.ireturn, 1) := by decide +kernel
theorem dd_L_memory_12 : decode b_L_memory 12 = .ok (.iconst 0, 1) := by decide +kernel
theorem dd_L_memory_13 : decode b_L_memory 13 = .ok (.ireturn, 1) := by decide +kernel
theorem dd_L_place_0 : decode b_L_place 0 = .ok (.aload 4, 2) := by decide +kernel
theorem dd_L_place_2 : decode b_L_place 2 = .ok (.iconst 0, 1) := by decide +kernel
theorem dd_L_place_3 : decode b_L_place 3 = .ok (.aload_n 0, 1) := by decide +kernel
theorem dd_L_place_4 : decode b_L_place 4 = .ok (.iload_n 1, 1) := by decide +kernel
theorem dd_L_place_5 : decode b_L_place 5 = .ok (.iload_n 2, 1) := by decide +kernel
theorem dd_L_place_6 : decode b_L_place 6 = .ok (.iload_n 3, 1) := by decide +kernel
theorem dd_L_place_7 : decode b_L_place 7 = .ok (.invokevirtual 37, 3) := by decide +kernel
theorem dd_L_place_10 : decode b_L_place 10 = .ok (.i2l, 1) := by decide +kernel
theorem dd_L_place_11 : decode b_L_place 11 = .ok (.lastore, 1) := by decide +kernel
theorem dd_L_place_12 : decode b_L_place 12 = .ok (.goto 7, 3) := by decide +kernel
theorem dd_L_place_15 : decode b_L_place 15 = .ok (.astore 5, 2) := by decide +kernel
theorem dd_L_place_17 : decode b_L_place 17 = .ok (.iconst 1, 1) := by decide +kernel
theorem dd_L_place_18 : decode b_L_place 18 = .ok (.ireturn, 1) := by decide +kernel
theorem dd_L_place_19 : decode b_L_place 19 = .ok (.iconst 0, 1) := by decide +kernel
theorem dd_L_place_20 : decode b_L_place 20 = .ok (.ireturn, 1) := by decide +kernel
theorem dd_L_compare_0 : decode b_L_compare 0 = .ok (.aload_n 3, 1) := by decide +kernel
theorem dd_L_compare_1 : decode b_L_compare 1 = .ok (.iconst 0, 1) := by decide +kernel
theorem dd_L_compare_2 : decode b_L_compare 2 = .ok (.aload_n 0, 1) := by decide +kernel
theorem dd_L_compare_3 : decode b_L_compare 3 = .ok (.iload_n 1, 1) := by decide +kernel
theorem dd_L_compare_4 : decode b_L_compare 4 = .ok (.iload_n 2, 1) := by decide +kernel
theorem dd_L_compare_5 : decode b_L_compare 5 = .ok (.invokevirtual 43, 3) := by decide +kernel
theorem dd_L_compare_8 : decode b_L_compare 8 = .ok (.i2l, 1) := by decide +kernel
theorem dd_L_compare_9 : decode b_L_compare 9 = .ok (.lastore, 1) := by decide +kernel
theorem dd_L_compare_10 : decode b_L_compare 10 = .ok (.goto 7, 3) := by decide +kernel
theorem dd_L_compare_13 : decode b_L_compare 13 = .ok (.astore 4, 2) := by decide +kernel
theorem dd_L_compare_15 : decode b_L_compare 15 = .ok (.iconst 1, 1) := by decide +kernel
theorem dd_L_compare_16 : decode b_L_compare 16 = .ok (.ireturn, 1) := by decide +kernel
theorem dd_L_compare_17 : decode b_L_compare 17 = .ok (.iconst 0, 1) := by decide +kernel
theorem dd_L_compare_18 : decode b_L_compare 18 = .ok (.ireturn, 1) := by decide +kernel
theorem dd_L_sort_0 : decode b_L_sort 0 = .ok (.aload_n 1, 1) := by decide +kernel
theorem dd_L_sort_1 : decode b_L_sort 1 = .ok (.iconst 0, 1) := by decide +kernel
theorem dd_L_sort_2 : decode b_L_sort 2 = .ok (.aload_n 0, 1) := by decide +kernel
theorem dd_L_sort_3 : decode b_L_sort 3 = .ok (.invokevirtual 47, 3) := by decide +kernel
theorem dd_L_sort_6 : decode b_L_sort 6 = .ok (.i2l, 1) := by decide +kernel
theorem dd_L_sort_7 : decode b_L_sort 7 = .ok (.lastore, 1) := by decide +kernel
theorem dd_L_sort_8 : decode b_L_sort 8 = .ok (.goto 6, 3) := by decide +kernel
theorem dd_L_sort_11 : decode b_L_sort 11 = .ok (.astore_n 2, 1) := by decide +kernel
theorem dd_L_sort_12 : decode b_L_sort 12 = .ok (.iconst 1, 1) := by decide +kernel
theorem dd_L_sort_13 : decode b_L_sort 13 = .ok (.ireturn, 1) := by decide +kernel
theorem dd_L_sort_14 : decode b_L_sort 14 = .ok (.iconst 0, 1) := by decide +kernel
theorem dd_L_sort_15 : decode b_L_sort 15 = .ok (.ireturn, 1) := by decide +kernel
theorem dd_L_merge_0 : decode b_L_merge 0 = .ok (.aload_n 2, 1) := by decide +kernel
theorem dd_L_merge_1 : decode b_L_merge 1 = .ok (.iconst 0, 1) := by decide +kernel
theorem dd_L_merge_2 : decode b_L_merge 2 = .ok (.aload_n 0, 1) := by decide +kernel
theorem dd_L_merge_3 : decode b_L_merge 3 = .ok (.iload_n 1, 1) := by decide +kernel
theorem dd_L_merge_4 : decode b_L_merge 4 = .ok (.invokevirtual 51, 3) := by decide +kernel
theorem dd_L_merge_7 : decode b_L_merge 7 = .ok (.i2l, 1) := by decide +kernel
theorem dd_L_merge_8 : decode b_L_merge 8 = .ok (.lastore, 1) := by decide +kernel
theorem dd_L_merge_9 : decode b_L_merge 9 = .ok (.goto 9, 3) := by decide +kernel
theorem dd_L_merge_12 : decode b_L_merge 12 = .ok (.astore_n 3, 1) := by decide +kernel
theorem dd_L_merge_13 : decode b_L_merge 13 = .ok (.iconst 1, 1) := by decide +kernel
theorem dd_L_merge_14 : decode b_L_merge 14 = .ok (.ireturn, 1) := by decide +kernel
theorem dd_L_merge_15 : decode b_L_merge 15 = .ok (.astore_n 3, 1) := by decide +kernel
theorem dd_L_merge_16 : decode b_L_merge 16 = .ok (.iconst 2, 1) := by decide +kernel
theorem dd_L_merge_17 : decode b_L_merge 17 = .ok (.ireturn, 1) := by decide +kernel
theorem dd_L_merge_18 : decode b_L_merge 18 = .ok (.iconst 0, 1) := by decide +kernel
theorem dd_L_merge_19 : decode b_L_merge 19 = .ok (.ireturn, 1) := by decide +kernel
theorem dd_L_about_0 : decode b_L_about 0 = .ok (.aload_n 2, 1) := by decide +kernel
theorem dd_L_about_1 : decode b_L_about 1 = .ok (.iconst 0, 1) := by decide +kernel
theorem dd_L_about_2 : decode b_L_about 2 = .ok (.aload_n 0, 1) := by decide +kernel
theorem dd_L_about_3 : decode b_L_about 3 = .ok (.iload_n 1, 1) := by decide +kernel
theorem dd_L_about_4 : decode b_L_about 4 = .ok (.invokevirtual 55, 3) := by decide +kernel
theorem dd_L_about_7 : decode b_L_about 7 = .ok (.i2l, 1) := by decide +kernel
theorem dd_L_about_8 : decode b_L_about 8 = .ok (.lastore, 1) := by decide +kernel
theorem dd_L_about_9 : decode b_L_about 9 = .ok (.goto 6, 3) := by decide +kernel
theorem dd_L_about_12 : decode b_L_about 12 = .ok (.astore_n 3, 1) := by decide +kernel
theorem dd_L_about_13 : decode b_L_about 13 = .ok (.iconst 1, 1) := by decide +kernel
theorem dd_L_about_14 : decode b_L_about 14 = .ok (.ireturn, 1) := by decide +kernel
theorem dd_L_about_15 : decode b_L_about 15 = .ok (.iconst 0, 1) := by decide +kernel
theorem dd_L_about_16 : decode b_L_about 16 = .ok (.ireturn, 1) := by decide +kernel
end
section
theorem dd_L_law_0 : decode code 0 = .ok (.new 8, 3) := by decide +kernel
theorem dd_L_law_3 : decode code 3 = .ok (.dup, 1) := by decide +kernel
theorem dd_L_law_4 : decode code 4 = .ok (.invokespecial 58, 3) := by decide +kernel
theorem dd_L_law_7 : decode code 7 = .ok (.astore_n 1, 1) := by decide +kernel
theorem dd_L_law_8 : decode code 8 = .ok (.new 59, 3) := by decide +kernel
theorem dd_L_law_11 : decode code 11 = .ok (.dup, 1) := by decide +kernel
theorem dd_L_law_12 : decode code 12 = .ok (.invokespecial 61, 3) := by decide +kernel
theorem dd_L_law_15 : decode code 15 = .ok (.astore_n 2, 1) := by decide +kernel
theorem dd_L_law_16 : decode code 16 = .ok (.iconst 1, 1) := by decide +kernel
theorem dd_L_law_17 : decode code 17 = .ok (.newarray .long, 2) := by decide +kernel
theorem dd_L_law_19 : decode code 19 = .ok (.astore_n 3, 1) := by decide +kernel
theorem dd_L_law_20 : decode code 20 = .ok (.iconst 0, 1) := by decide +kernel
theorem dd_L_law_21 : decode code 21 = .ok (.istore 4, 2) := by decide +kernel
theorem dd_L_law_23 : decode code 23 = .ok (.iload 4, 2) := by decide +kernel
theorem dd_L_law_25 : decode code 25 = .ok (.aload_n 0, 1) := by decide +kernel
theorem dd_L_law_26 : decode code 26 = .ok (.arraylength, 1) := by decide +kernel
theorem dd_L_law_27 : decode code 27 = .ok (.bipush 6, 2) := by decide +kernel
theorem dd_L_law_29 : decode code 29 = .ok (.isub, 1) := by decide +kernel
theorem dd_L_law_30 : decode code 30 = .ok (.if_icmp .gt 966, 3) := by decide +kernel
theorem dd_L_law_33 : decode code 33 = .ok (.aload_n 0, 1) := by decide +kernel
theorem dd_L_law_34 : decode code 34 = .ok (.iload 4, 2) := by decide +kernel
theorem dd_L_law_36 : decode code 36 = .ok (.iaload, 1) := by decide +kernel
theorem dd_L_law_37 : decode code 37 = .ok (.bipush 31, 2) := by decide +kernel
theorem dd_L_law_39 : decode code 39 = .ok (.iand, 1) := by decide +kernel
theorem dd_L_law_40 : decode code 40 = .ok (.tableswitch 950 0 16 #[84, 188, 224, 316, 352, 456, 469, 517, 530, 626, 694, 738, 751, 807, 832, 869, 894], 84) := by decide +kernel
theorem dd_L_law_124 : decode code 124 = .ok (.aload_n 1, 1) := by decide +kernel
theorem dd_L_law_125 : decode code 125 = .ok (.aload_n 0, 1) := by decide +kernel
theorem dd_L_law_126 : decode code 126 = .ok (.iload 4, 2) := by decide +kernel
theorem dd_L_law_128 : decode code 128 = .ok (.iconst 1, 1) := by decide +kernel
theorem dd_L_law_129 : decode code 129 = .ok (.iadd, 1) := by decide +kernel
theorem dd_L_law_130 : decode code 130 = .ok (.iaload, 1) := by decide +kernel
theorem dd_L_law_131 : decode code 131 = .ok (.aload_n 0, 1) := by decide +kernel
theorem dd_L_law_132 : decode code 132 = .ok (.iload 4, 2) := by decide +kernel
theorem dd_L_law_134 : decode code 134 = .ok (.iconst 2, 1) := by decide +kernel
theorem dd_L_law_135 : decode code 135 = .ok (.iadd, 1) := by decide +kernel
theorem dd_L_law_136 : decode code 136 = .ok (.iaload, 1) := by decide +kernel
theorem dd_L_law_137 : decode code 137 = .ok (.aload_n 0, 1) := by decide +kernel
theorem dd_L_law_138 : decode code 138 = .ok (.iload 4, 2) := by decide +kernel
theorem dd_L_law_140 : decode code 140 = .ok (.iconst 3, 1) := by decide +kernel
theorem dd_L_law_141 : decode code 141 = .ok (.iadd, 1) := by decide +kernel
theorem dd_L_law_142 : decode code 142 = .ok (.iaload, 1) := by decide +kernel
theorem dd_L_law_143 : decode code 143 = .ok (.aload_n 0, 1) := by decide +kernel
theorem dd_L_law_144 : decode code 144 = .ok (.iload 4, 2) := by decide +kernel
theorem dd_L_law_146 : decode code 146 = .ok (.iconst 4, 1) := by decide +kernel
theorem dd_L_law_147 : decode code 147 = .ok (.iadd, 1) := by decide +kernel
theorem dd_L_law_148 : decode code 148 = .ok (.iaload, 1) := by decide +kernel
theorem dd_L_law_149 : decode code 149 = .ok (.aload_n 0, 1) := by decide +kernel
theorem dd_L_law_150 : decode code 150 = .ok (.iload 4, 2) := by decide +kernel
theorem dd_L_law_152 : decode code 152 = .ok (.iconst 5, 1) := by decide +kernel
theorem dd_L_law_153 : decode code 153 = .ok (.iadd, 1) := by decide +kernel
theorem dd_L_law_154 : decode code 154 = .ok (.iaload, 1) := by decide +kernel
theorem dd_L_law_155 : decode code 155 = .ok (.aload_n 3, 1) := by decide +kernel
theorem dd_L_law_156 : decode code 156 = .ok (.invokestatic 62, 3) := by decide +kernel
theorem dd_L_law_159 : decode code 159 = .ok (.istore 5, 2) := by decide +kernel
theorem dd_L_law_161 : decode code 161 = .ok (.aload_n 2, 1) := by decide +kernel
theorem dd_L_law_162 : decode code 162 = .ok (.aload_n 0, 1) := by decide +kernel
theorem dd_L_law_163 : decode code 163 = .ok (.iload 4, 2) := by decide +kernel
theorem dd_L_law_165 : decode code 165 = .ok (.iconst 1, 1) := by decide +kernel
theorem dd_L_law_166 : decode code 166 = .ok (.iadd, 1) := by decide +kernel
theorem dd_L_law_167 : decode code 167 = .ok (.iaload, 1) := by decide +kernel
theorem dd_L_law_168 : decode code 168 = .ok (.aload_n 0, 1) := by decide +kernel
theorem dd_L_law_169 : decode code 169 = .ok (.iload 4, 2) := by decide +kernel
theorem dd_L_law_171 : decode code 171 = .ok (.iconst 2, 1) := by decide +kernel
theorem dd_L_law_172 : decode code 172 = .ok (.iadd, 1) := by decide +kernel
theorem dd_L_law_173 : decode code 173 = .ok (.iaload, 1) := by decide +kernel
theorem dd_L_law_174 : decode code 174 = .ok (.aload_n 0, 1) := by decide +kernel
theorem dd_L_law_175 : decode code 175 = .ok (.iload 4, 2) := by decide +kernel
theorem dd_L_law_177 : decode code 177 = .ok (.iconst 3, 1) := by decide +kernel
theorem dd_L_law_178 : decode code 178 = .ok (.iadd, 1) := by decide +kernel
theorem dd_L_law_179 : decode code 179 = .ok (.iaload, 1) := by decide +kernel
theorem dd_L_law_180 : decode code 180 = .ok (.aload_n 0, 1) := by decide +kernel
theorem dd_L_law_181 : decode code 181 = .ok (.iload 4, 2) := by decide +kernel
theorem dd_L_law_183 : decode code 183 = .ok (.iconst 4, 1) := by decide +kernel
theorem dd_L_law_184 : decode code 184 = .ok (.iadd, 1) := by decide +kernel
theorem dd_L_law_185 : decode code 185 = .ok (.iaload, 1) := by decide +kernel
theorem dd_L_law_186 : decode code 186 = .ok (.aload_n 0, 1) := by decide +kernel
theorem dd_L_law_187 : decode code 187 = .ok (.iload 4, 2) := by decide +kernel
theorem dd_L_law_189 : decode code 189 = .ok (.iconst 5, 1) := by decide +kernel
theorem dd_L_law_190 : decode code 190 = .ok (.iadd, 1) := by decide +kernel
theorem dd_L_law_191 : decode code 191 = .ok (.iaload, 1) := by decide +kernel
theorem dd_L_law_192 : decode code 192 = .ok (.invokevirtual 67, 3) := by decide +kernel
theorem dd_L_law_195 : decode code 195 = .ok (.istore 6, 2) := by decide +kernel
theorem dd_L_law_197 : decode code 197 = .ok (.aload_n 2, 1) := by decide +kernel
theorem dd_L_law_198 : decode code 198 = .ok (.invokevirtual 68, 3) := by decide +kernel
theorem dd_L_law_201 : decode code 201 = .ok (.iload 5, 2) := by decide +kernel
theorem dd_L_law_203 : decode code 203 = .ok (.if_icmp .eq 5, 3) := by decide +kernel
theorem dd_L_law_206 : decode code 206 = .ok (.iconst 0, 1) := by decide +kernel
theorem dd_L_law_207 : decode code 207 = .ok (.ireturn, 1) := by decide +kernel
theorem dd_L_law_208 : decode code 208 = .ok (.iload 5, 2) := by decide +kernel
theorem dd_L_law_210 : decode code 210 = .ok (.ifCond .ne 15, 3) := by decide +kernel
theorem dd_L_law_213 : decode code 213 = .ok (.aload_n 3, 1) := by decide +kernel
theorem dd_L_law_214 : decode code 214 = .ok (.iconst 0, 1) := by decide +kernel
theorem dd_L_law_215 : decode code 215 = .ok (.laload, 1) := by decide +kernel
theorem dd_L_law_216 : decode code 216 = .ok (.iload 6, 2) := by decide +kernel
theorem dd_L_law_218 : decode code 218 = .ok (.i2l, 1) := by decide +kernel
theorem dd_L_law_219 : decode code 219 = .ok (.lcmp, 1) := by decide +kernel
theorem dd_L_law_220 : decode code 220 = .ok (.ifCond .eq 5, 3) := by decide +kernel
theorem dd_L_law_223 : decode code 223 = .ok (.iconst 0, 1) := by decide +kernel
theorem dd_L_law_224 : decode code 224 = .ok (.ireturn, 1) := by decide +kernel
theorem dd_L_law_225 : decode code 225 = .ok (.goto 765, 3) := by decide +kernel
theorem dd_L_law_228 : decode code 228 = .ok (.aload_n 1, 1) := by decide +kernel
theorem dd_L_law_229 : decode code 229 = .ok (.aload_n 0, 1) := by decide +kernel
theorem dd_L_law_230 : decode code 230 = .ok (.iload 4, 2) := by decide +kernel
theorem dd_L_law_232 : decode code 232 = .ok (.iconst 1, 1) := by decide +kernel
theorem dd_L_law_233 : decode code 233 = .ok (.iadd, 1) := by decide +kernel
theorem dd_L_law_234 : decode code 234 = .ok (.iaload, 1) := by decide +kernel
theorem dd_L_law_235 : decode code 235 = .ok (.invokestatic 71, 3) := by decide +kernel
theorem dd_L_law_238 : decode code 238 = .ok (.istore 5, 2) := by decide +kernel
theorem dd_L_law_240 : decode code 240 = .ok (.aload_n 2, 1) := by decide +kernel
theorem dd_L_law_241 : decode code 241 = .ok (.aload_n 0, 1) := by decide +kernel
theorem dd_L_law_242 : decode code 242 = .ok (.iload 4, 2) := by decide +kernel
theorem dd_L_law_244 : decode code 244 = .ok (.iconst 1, 1) := by decide +kernel
theorem dd_L_law_245 : decode code 245 = .ok (.iadd, 1) := by decide +kernel
theorem dd_L_law_246 : decode code 246 = .ok (.iaload, 1) := by decide +kernel
theorem dd_L_law_247 : decode code 247 = .ok (.invokevirtual 74, 3) := by decide +kernel
theorem dd_L_law_250 : decode code 250 = .ok (.aload_n 2, 1) := by decide +kernel
theorem dd_L_law_251 : decode code 251 = .ok (.invokevirtual 68, 3) := by decide +kernel
theorem dd_L_law_254 : decode code 254 = .ok (.iload 5, 2) := by decide +kernel
theorem dd_L_law_256 : decode code 256 = .ok (.if_icmp .eq 5, 3) := by decide +kernel
theorem dd_L_law_259 : decode code 259 = .ok (.iconst 0, 1) := by decide +kernel
theorem dd_L_law_260 : decode code 260 = .ok (.ireturn, 1) := by decide +kernel
theorem dd_L_law_261 : decode code 261 = .ok (.goto 729, 3) := by decide +kernel
theorem dd_L_law_264 : decode code 264 = .ok (.aload_n 1, 1) := by decide +kernel
theorem dd_L_law_265 : decode code 265 = .ok (.aload_n 0, 1) := by decide +kernel
theorem dd_L_law_266 : decode code 266 = .ok (.iload 4, 2) := by decide +kernel
theorem dd_L_law_268 : decode code 268 = .ok (.iconst 1, 1) := by decide +kernel
theorem dd_L_law_269 : decode code 269 = .ok (.iadd, 1) := by decide +kernel
theorem dd_L_law_270 : decode code 270 = .ok (.iaload, 1) := by decide +kernel
theorem dd_L_law_271 : decode code 271 = .ok (.aload_n 0, 1) := by decide +kernel
theorem dd_L_law_272 : decode code 272 = .ok (.iload 4, 2) := by decide +kernel
theorem dd_L_law_274 : decode code 274 = .ok (.iconst 2, 1) := by decide +kernel
theorem dd_L_law_275 : decode code 275 = .ok (.iadd, 1) := by decide +kernel
theorem dd_L_law_276 : decode code 276 = .ok (.iaload, 1) := by decide +kernel
theorem dd_L_law_277 : decode code 277 = .ok (.ifCond .eq 7, 3) := by decide +kernel
theorem dd_L_law_280 : decode code 280 = .ok (.iconst 1, 1) := by decide +kernel
theorem dd_L_law_281 : decode code 281 = .ok (.goto 4, 3) := by decide +kernel
theorem dd_L_law_284 : decode code 284 = .ok (.iconst 0, 1) := by decide +kernel
theorem dd_L_law_285 : decode code 285 = .ok (.aload_n 0, 1) := by decide +kernel
theorem dd_L_law_286 : decode code 286 = .ok (.iload 4, 2) := by decide +kernel
theorem dd_L_law_288 : decode code 288 = .ok (.iconst 3, 1) := by decide +kernel
theorem dd_L_law_289 : decode code 289 = .ok (.iadd, 1) := by decide +kernel
theorem dd_L_law_290 : decode code 290 = .ok (.iaload, 1) := by decide +kernel
theorem dd_L_law_291 : decode code 291 = .ok (.ifCond .eq 7, 3) := by decide +kernel
theorem dd_L_law_294 : decode code 294 = .ok (.iconst 1, 1) := by decide +kernel
theorem dd_L_law_295 : decode code 295 = .ok (.goto 4, 3) := by decide +kernel
theorem dd_L_law_298 : decode code 298 = .ok (.iconst 0, 1) := by decide +kernel
theorem dd_L_law_299 : decode code 299 = .ok (.invokestatic 75, 3) := by decide +kernel
theorem dd_L_law_302 : decode code 302 = .ok (.istore 5, 2) := by decide +kernel
theorem dd_L_law_304 : decode code 304 = .ok (.aload_n 2, 1) := by decide +kernel
theorem dd_L_law_305 : decode code 305 = .ok (.aload_n 0, 1) := by decide +kernel
theorem dd_L_law_306 : decode code 306 = .ok (.iload 4, 2) := by decide +kernel
theorem dd_L_law_308 : decode code 308 = .ok (.iconst 1, 1) := by decide +kernel
theorem dd_L_law_309 : decode code 309 = .ok (.iadd, 1) := by decide +kernel
theorem dd_L_law_310 : decode code 310 = .ok (.iaload, 1) := by decide +kernel
theorem dd_L_law_311 : decode code 311 = .ok (.aload_n 0, 1) := by decide +kernel
theorem dd_L_law_312 : decode code 312 = .ok (.iload 4, 2) := by decide +kernel
theorem dd_L_law_314 : decode code 314 = .ok (.iconst 2, 1) := by decide +kernel
theorem dd_L_law_315 : decode code 315 = .ok (.iadd, 1) := by decide +kernel
theorem dd_L_law_316 : decode code 316 = .ok (.iaload, 1) := by decide +kernel
theorem dd_L_law_317 : decode code 317 = .ok (.ifCond .eq 7, 3) := by decide +kernel
theorem dd_L_law_320 : decode code 320 = .ok (.iconst 1, 1) := by decide +kernel
theorem dd_L_law_321 : decode code 321 = .ok (.goto 4, 3) := by decide +kernel
theorem dd_L_law_324 : decode code 324 = .ok (.iconst 0, 1) := by decide +kernel
theorem dd_L_law_325 : decode code 325 = .ok (.aload_n 0, 1) := by decide +kernel
theorem dd_L_law_326 : decode code 326 = .ok (.iload 4, 2) := by decide +kernel
theorem dd_L_law_328 : decode code 328 = .ok (.iconst 3, 1) := by decide +kernel
theorem dd_L_law_329 : decode code 329 = .ok (.iadd, 1) := by decide +kernel
theorem dd_L_law_330 : decode code 330 = .ok (.iaload, 1) := by decide +kernel
theorem dd_L_law_331 : decode code 331 = .ok (.ifCond .eq 7, 3) := by decide +kernel
theorem dd_L_law_334 : decode code 334 = .ok (.iconst 1, 1) := by decide +kernel
theorem dd_L_law_335 : decode code 335 = .ok (.goto 4, 3) := by decide +kernel
theorem dd_L_law_338 : decode code 338 = .ok (.iconst 0, 1) := by decide +kernel
theorem dd_L_law_339 : decode code 339 = .ok (.invokevirtual 78, 3) := by decide +kernel
theorem dd_L_law_342 : decode code 342 = .ok (.aload_n 2, 1) := by decide +kernel
theorem dd_L_law_343 : decode code 343 = .ok (.invokevirtual 68, 3) := by decide +kernel
theorem dd_L_law_346 : decode code 346 = .ok (.iload 5, 2) := by decide +kernel
theorem dd_L_law_348 : decode code 348 = .ok (.if_icmp .eq 5, 3) := by decide +kernel
theorem dd_L_law_351 : decode code 351 = .ok (.iconst 0, 1) := by decide +kernel
theorem dd_L_law_352 : decode code 352 = .ok (.ireturn, 1) := by decide +kernel
theorem dd_L_law_353 : decode code 353 = .ok (.goto 637, 3) := by decide +kernel
theorem dd_L_law_356 : decode code 356 = .ok (.aload_n 1, 1) := by decide +kernel
theorem dd_L_law_357 : decode code 357 = .ok (.aload_n 0, 1) := by decide +kernel
theorem dd_L_law_358 : decode code 358 = .ok (.iload 4, 2) := by decide +kernel
theorem dd_L_law_360 : decode code 360 = .ok (.iconst 1, 1) := by decide +kernel
theorem dd_L_law_361 : decode code 361 = .ok (.iadd, 1) := by decide +kernel
theorem dd_L_law_362 : decode code 362 = .ok (.iaload, 1) := by decide +kernel
theorem dd_L_law_363 : decode code 363 = .ok (.invokestatic 79, 3) := by decide +kernel
theorem dd_L_law_366 : decode code 366 = .ok (.istore 5, 2) := by decide +kernel
theorem dd_L_law_368 : decode code 368 = .ok (.aload_n 2, 1) := by decide +kernel
theorem dd_L_law_369 : decode code 369 = .ok (.aload_n 0, 1) := by decide +kernel
theorem dd_L_law_370 : decode code 370 = .ok (.iload 4, 2) := by decide +kernel
theorem dd_L_law_372 : decode code 372 = .ok (.iconst 1, 1) := by decide +kernel
theorem dd_L_law_373 : decode code 373 = .ok (.iadd, 1) := by decide +kernel
theorem dd_L_law_374 : decode code 374 = .ok (.iaload, 1) := by decide +kernel
theorem dd_L_law_375 : decode code 375 = .ok (.invokevirtual 81, 3) := by decide +kernel
theorem dd_L_law_378 : decode code 378 = .ok (.aload_n 2, 1) := by decide +kernel
theorem dd_L_law_379 : decode code 379 = .ok (.invokevirtual 68, 3) := by decide +kernel
theorem dd_L_law_382 : decode code 382 = .ok (.iload 5, 2) := by decide +kernel
theorem dd_L_law_384 : decode code 384 = .ok (.if_icmp .eq 5, 3) := by decide +kernel
theorem dd_L_law_387 : decode code 387 = .ok (.iconst 0, 1) := by decide +kernel
theorem dd_L_law_388 : decode code 388 = .ok (.ireturn, 1) := by decide +kernel
theorem dd_L_law_389 : decode code 389 = .ok (.goto 601, 3) := by decide +kernel
theorem dd_L_law_392 : decode code 392 = .ok (.aload_n 1, 1) := by decide +kernel
theorem dd_L_law_393 : decode code 393 = .ok (.aload_n 0, 1) := by decide +kernel
theorem dd_L_law_394 : decode code 394 = .ok (.iload 4, 2) := by decide +kernel
theorem dd_L_law_396 : decode code 396 = .ok (.iconst 1, 1) := by decide +kernel
theorem dd_L_law_397 : decode code 397 = .ok (.iadd, 1) := by decide +kernel
theorem dd_L_law_398 : decode code 398 = .ok (.iaload, 1) := by decide +kernel
theorem dd_L_law_399 : decode code 399 = .ok (.aload_n 0, 1) := by decide +kernel
theorem dd_L_law_400 : decode code 400 = .ok (.iload 4, 2) := by decide +kernel
theorem dd_L_law_402 : decode code 402 = .ok (.iconst 2, 1) := by decide +kernel
theorem dd_L_law_403 : decode code 403 = .ok (.iadd, 1) := by decide +kernel
theorem dd_L_law_404 : decode code 404 = .ok (.iaload, 1) := by decide +kernel
theorem dd_L_law_405 : decode code 405 = .ok (.aload_n 0, 1) := by decide +kernel
theorem dd_L_law_406 : decode code 406 = .ok (.iload 4, 2) := by decide +kernel
theorem dd_L_law_408 : decode code 408 = .ok (.iconst 3, 1) := by decide +kernel
theorem dd_L_law_409 : decode code 409 = .ok (.iadd, 1) := by decide +kernel
theorem dd_L_law_410 : decode code 410 = .ok (.iaload, 1) := by decide +kernel
theorem dd_L_law_411 : decode code 411 = .ok (.aload_n 0, 1) := by decide +kernel
theorem dd_L_law_412 : decode code 412 = .ok (.iload 4, 2) := by decide +kernel
theorem dd_L_law_414 : decode code 414 = .ok (.iconst 4, 1) := by decide +kernel
theorem dd_L_law_415 : decode code 415 = .ok (.iadd, 1) := by decide +kernel
theorem dd_L_law_416 : decode code 416 = .ok (.iaload, 1) := by decide +kernel
theorem dd_L_law_417 : decode code 417 = .ok (.aload_n 0, 1) := by decide +kernel
theorem dd_L_law_418 : decode code 418 = .ok (.iload 4, 2) := by decide +kernel
theorem dd_L_law_420 : decode code 420 = .ok (.iconst 5, 1) := by decide +kernel
theorem dd_L_law_421 : decode code 421 = .ok (.iadd, 1) := by decide +kernel
theorem dd_L_law_422 : decode code 422 = .ok (.iaload, 1) := by decide +kernel
theorem dd_L_law_423 : decode code 423 = .ok (.aload_n 3, 1) := by decide +kernel
theorem dd_L_law_424 : decode code 424 = .ok (.invokestatic 82, 3) := by decide +kernel
theorem dd_L_law_427 : decode code 427 = .ok (.istore 5, 2) := by decide +kernel
theorem dd_L_law_429 : decode code 429 = .ok (.aload_n 2, 1) := by decide +kernel
theorem dd_L_law_430 : decode code 430 = .ok (.aload_n 0, 1) := by decide +kernel
theorem dd_L_law_431 : decode code 431 = .ok (.iload 4, 2) := by decide +kernel
theorem dd_L_law_433 : decode code 433 = .ok (.iconst 1, 1) := by decide +kernel
theorem dd_L_law_434 : decode code 434 = .ok (.iadd, 1) := by decide +kernel
theorem dd_L_law_435 : decode code 435 = .ok (.iaload, 1) := by decide +kernel
theorem dd_L_law_436 : decode code 436 = .ok (.aload_n 0, 1) := by decide +kernel
theorem dd_L_law_437 : decode code 437 = .ok (.iload 4, 2) := by decide +kernel
theorem dd_L_law_439 : decode code 439 = .ok (.iconst 2, 1) := by decide +kernel
theorem dd_L_law_440 : decode code 440 = .ok (.iadd, 1) := by decide +kernel
theorem dd_L_law_441 : decode code 441 = .ok (.iaload, 1) := by decide +kernel
theorem dd_L_law_442 : decode code 442 = .ok (.aload_n 0, 1) := by decide +kernel
theorem dd_L_law_443 : decode code 443 = .ok (.iload 4, 2) := by decide +kernel
theorem dd_L_law_445 : decode code 445 = .ok (.iconst 3, 1) := by decide +kernel
theorem dd_L_law_446 : decode code 446 = .ok (.iadd, 1) := by decide +kernel
theorem dd_L_law_447 : decode code 447 = .ok (.iaload, 1) := by decide +kernel
theorem dd_L_law_448 : decode code 448 = .ok (.aload_n 0, 1) := by decide +kernel
theorem dd_L_law_449 : decode code 449 = .ok (.iload 4, 2) := by decide +kernel
theorem dd_L_law_451 : decode code 451 = .ok (.iconst 4, 1) := by decide +kernel
theorem dd_L_law_452 : decode code 452 = .ok (.iadd, 1) := by decide +kernel
theorem dd_L_law_453 : decode code 453 = .ok (.iaload, 1) := by decide +kernel
theorem dd_L_law_454 : decode code 454 = .ok (.aload_n 0, 1) := by decide +kernel
theorem dd_L_law_455 : decode code 455 = .ok (.iload 4, 2) := by decide +kernel
theorem dd_L_law_457 : decode code 457 = .ok (.iconst 5, 1) := by decide +kernel
theorem dd_L_law_458 : decode code 458 = .ok (.iadd, 1) := by decide +kernel
theorem dd_L_law_459 : decode code 459 = .ok (.iaload, 1) := by decide +kernel
theorem dd_L_law_460 : decode code 460 = .ok (.invokevirtual 84, 3) := by decide +kernel
theorem dd_L_law_463 : decode code 463 = .ok (.istore 6, 2) := by decide +kernel
theorem dd_L_law_465 : decode code 465 = .ok (.aload_n 2, 1) := by decide +kernel
theorem dd_L_law_466 : decode code 466 = .ok (.invokevirtual 68, 3) := by decide +kernel
theorem dd_L_law_469 : decode code 469 = .ok (.iload 5, 2) := by decide +kernel
theorem dd_L_law_471 : decode code 471 = .ok (.if_icmp .eq 5, 3) := by decide +kernel
theorem dd_L_law_474 : decode code 474 = .ok (.iconst 0, 1) := by decide +kernel
theorem dd_L_law_475 : decode code 475 = .ok (.ireturn, 1) := by decide +kernel
theorem dd_L_law_476 : decode code 476 = .ok (.iload 5, 2) := by decide +kernel
theorem dd_L_law_478 : decode code 478 = .ok (.ifCond .ne 15, 3) := by decide +kernel
theorem dd_L_law_481 : decode code 481 = .ok (.aload_n 3, 1) := by decide +kernel
theorem dd_L_law_482 : decode code 482 = .ok (.iconst 0, 1) := by decide +kernel
theorem dd_L_law_483 : decode code 483 = .ok (.laload, 1) := by decide +kernel
theorem dd_L_law_484 : decode code 484 = .ok (.iload 6, 2) := by decide +kernel
theorem dd_L_law_486 : decode code 486 = .ok (.i2l, 1) := by decide +kernel
theorem dd_L_law_487 : decode code 487 = .ok (.lcmp, 1) := by decide +kernel
theorem dd_L_law_488 : decode code 488 = .ok (.ifCond .eq 5, 3) := by decide +kernel
theorem dd_L_law_491 : decode code 491 = .ok (.iconst 0, 1) := by decide +kernel
theorem dd_L_law_492 : decode code 492 = .ok (.ireturn, 1) := by decide +kernel
theorem dd_L_law_493 : decode code 493 = .ok (.goto 497, 3) := by decide +kernel
theorem dd_L_law_496 : decode code 496 = .ok (.aload_n 1, 1) := by decide +kernel
theorem dd_L_law_497 : decode code 497 = .ok (.invokevirtual 85, 3) := by decide +kernel
theorem dd_L_law_500 : decode code 500 = .ok (.aload_n 2, 1) := by decide +kernel
theorem dd_L_law_501 : decode code 501 = .ok (.invokevirtual 88, 3) := by decide +kernel
theorem dd_L_law_504 : decode code 504 = .ok (.if_icmp .eq 486, 3) := by decide +kernel
theorem dd_L_law_507 : decode code 507 = .ok (.iconst 0, 1) := by decide +kernel
theorem dd_L_law_508 : decode code 508 = .ok (.ireturn, 1) := by decide +kernel
theorem dd_L_law_509 : decode code 509 = .ok (.aload_n 1, 1) := by decide +kernel
theorem dd_L_law_510 : decode code 510 = .ok (.aload_n 0, 1) := by decide +kernel
theorem dd_L_law_511 : decode code 511 = .ok (.iload 4, 2) := by decide +kernel
theorem dd_L_law_513 : decode code 513 = .ok (.iconst 1, 1) := by decide +kernel
theorem dd_L_law_514 : decode code 514 = .ok (.iadd, 1) := by decide +kernel
theorem dd_L_law_515 : decode code 515 = .ok (.iaload, 1) := by decide +kernel
theorem dd_L_law_516 : decode code 516 = .ok (.aload_n 0, 1) := by decide +kernel
theorem dd_L_law_517 : decode code 517 = .ok (.iload 4, 2) := by decide +kernel
theorem dd_L_law_519 : decode code 519 = .ok (.iconst 2, 1) := by decide +kernel
theorem dd_L_law_520 : decode code 520 = .ok (.iadd, 1) := by decide +kernel
theorem dd_L_law_521 : decode code 521 = .ok (.iaload, 1) := by decide +kernel
theorem dd_L_law_522 : decode code 522 = .ok (.invokestatic 89, 3) := by decide +kernel
theorem dd_L_law_525 : decode code 525 = .ok (.istore 5, 2) := by decide +kernel
theorem dd_L_law_527 : decode code 527 = .ok (.aload_n 2, 1) := by decide +kernel
theorem dd_L_law_528 : decode code 528 = .ok (.aload_n 0, 1) := by decide +kernel
theorem dd_L_law_529 : decode code 529 = .ok (.iload 4, 2) := by decide +kernel
theorem dd_L_law_531 : decode code 531 = .ok (.iconst 1, 1) := by decide +kernel
theorem dd_L_law_532 : decode code 532 = .ok (.iadd, 1) := by decide +kernel
theorem dd_L_law_533 : decode code 533 = .ok (.iaload, 1) := by decide +kernel
theorem dd_L_law_534 : decode code 534 = .ok (.aload_n 0, 1) := by decide +kernel
theorem dd_L_law_535 : decode code 535 = .ok (.iload 4, 2) := by decide +kernel
theorem dd_L_law_537 : decode code 537 = .ok (.iconst 2, 1) := by decide +kernel
theorem dd_L_law_538 : decode code 538 = .ok (.iadd, 1) := by decide +kernel
theorem dd_L_law_539 : decode code 539 = .ok (.iaload, 1) := by decide +kernel
theorem dd_L_law_540 : decode code 540 = .ok (.invokevirtual 92, 3) := by decide +kernel
theorem dd_L_law_543 : decode code 543 = .ok (.aload_n 2, 1) := by decide +kernel
theorem dd_L_law_544 : decode code 544 = .ok (.invokevirtual 68, 3) := by decide +kernel
theorem dd_L_law_547 : decode code 547 = .ok (.iload 5, 2) := by decide +kernel
theorem dd_L_law_549 : decode code 549 = .ok (.if_icmp .eq 5, 3) := by decide +kernel
theorem dd_L_law_552 : decode code 552 = .ok (.iconst 0, 1) := by decide +kernel
theorem dd_L_law_553 : decode code 553 = .ok (.ireturn, 1) := by decide +kernel
theorem dd_L_law_554 : decode code 554 = .ok (.goto 436, 3) := by decide +kernel
theorem dd_L_law_557 : decode code 557 = .ok (.aload_n 1, 1) := by decide +kernel
theorem dd_L_law_558 : decode code 558 = .ok (.invokevirtual 93, 3) := by decide +kernel
theorem dd_L_law_561 : decode code 561 = .ok (.aload_n 2, 1) := by decide +kernel
theorem dd_L_law_562 : decode code 562 = .ok (.invokevirtual 96, 3) := by decide +kernel
theorem dd_L_law_565 : decode code 565 = .ok (.if_icmp .eq 425, 3) := by decide +kernel
theorem dd_L_law_568 : decode code 568 = .ok (.iconst 0, 1) := by decide +kernel
theorem dd_L_law_569 : decode code 569 = .ok (.ireturn, 1) := by decide +kernel
theorem dd_L_law_570 : decode code 570 = .ok (.aload_n 1, 1) := by decide +kernel
theorem dd_L_law_571 : decode code 571 = .ok (.aload_n 0, 1) := by decide +kernel
theorem dd_L_law_572 : decode code 572 = .ok (.iload 4, 2) := by decide +kernel
theorem dd_L_law_574 : decode code 574 = .ok (.iconst 1, 1) := by decide +kernel
theorem dd_L_law_575 : decode code 575 = .ok (.iadd, 1) := by decide +kernel
theorem dd_L_law_576 : decode code 576 = .ok (.iaload, 1) := by decide +kernel
theorem dd_L_law_577 : decode code 577 = .ok (.aload_n 0, 1) := by decide +kernel
theorem dd_L_law_578 : decode code 578 = .ok (.iload 4, 2) := by decide +kernel
theorem dd_L_law_580 : decode code 580 = .ok (.iconst 2, 1) := by decide +kernel
theorem dd_L_law_581 : decode code 581 = .ok (.iadd, 1) := by decide +kernel
theorem dd_L_law_582 : decode code 582 = .ok (.iaload, 1) := by decide +kernel
theorem dd_L_law_583 : decode code 583 = .ok (.aload_n 0, 1) := by decide +kernel
theorem dd_L_law_584 : decode code 584 = .ok (.iload 4, 2) := by decide +kernel
theorem dd_L_law_586 : decode code 586 = .ok (.iconst 3, 1) := by decide +kernel
theorem dd_L_law_587 : decode code 587 = .ok (.iadd, 1) := by decide +kernel
theorem dd_L_law_588 : decode code 588 = .ok (.iaload, 1) := by decide +kernel
theorem dd_L_law_589 : decode code 589 = .ok (.ifCond .eq 7, 3) := by decide +kernel
theorem dd_L_law_592 : decode code 592 = .ok (.iconst 1, 1) := by decide +kernel
theorem dd_L_law_593 : decode code 593 = .ok (.goto 4, 3) := by decide +kernel
theorem dd_L_law_596 : decode code 596 = .ok (.iconst 0, 1) := by decide +kernel
theorem dd_L_law_597 : decode code 597 = .ok (.aload_n 3, 1) := by decide +kernel
theorem dd_L_law_598 : decode code 598 = .ok (.invokestatic 97, 3) := by decide +kernel
theorem dd_L_law_601 : decode code 601 = .ok (.istore 5, 2) := by decide +kernel
theorem dd_L_law_603 : decode code 603 = .ok (.aload_n 2, 1) := by decide +kernel
theorem dd_L_law_604 : decode code 604 = .ok (.aload_n 0, 1) := by decide +kernel
theorem dd_L_law_605 : decode code 605 = .ok (.iload 4, 2) := by decide +kernel
theorem dd_L_law_607 : decode code 607 = .ok (.iconst 1, 1) := by decide +kernel
theorem dd_L_law_608 : decode code 608 = .ok (.iadd, 1) := by decide +kernel
theorem dd_L_law_609 : decode code 609 = .ok (.iaload, 1) := by decide +kernel
theorem dd_L_law_610 : decode code 610 = .ok (.aload_n 0, 1) := by decide +kernel
theorem dd_L_law_611 : decode code 611 = .ok (.iload 4, 2) := by decide +kernel
theorem dd_L_law_613 : decode code 613 = .ok (.iconst 2, 1) := by decide +kernel
theorem dd_L_law_614 : decode code 614 = .ok (.iadd, 1) := by decide +kernel
theorem dd_L_law_615 : decode code 615 = .ok (.iaload, 1) := by decide +kernel
theorem dd_L_law_616 : decode code 616 = .ok (.aload_n 0, 1) := by decide +kernel
theorem dd_L_law_617 : decode code 617 = .ok (.iload 4, 2) := by decide +kernel
theorem dd_L_law_619 : decode code 619 = .ok (.iconst 3, 1) := by decide +kernel
theorem dd_L_law_620 : decode code 620 = .ok (.iadd, 1) := by decide +kernel
theorem dd_L_law_621 : decode code 621 = .ok (.iaload, 1) := by decide +kernel
theorem dd_L_law_622 : decode code 622 = .ok (.ifCond .eq 7, 3) := by decide +kernel
theorem dd_L_law_625 : decode code 625 = .ok (.iconst 1, 1) := by decide +kernel
theorem dd_L_law_626 : decode code 626 = .ok (.goto 4, 3) := by decide +kernel
theorem dd_L_law_629 : decode code 629 = .ok (.iconst 0, 1) := by decide +kernel
theorem dd_L_law_630 : decode code 630 = .ok (.invokevirtual 100, 3) := by decide +kernel
theorem dd_L_law_633 : decode code 633 = .ok (.istore 6, 2) := by decide +kernel
theorem dd_L_law_635 : decode code 635 = .ok (.aload_n 2, 1) := by decide +kernel
theorem dd_L_law_636 : decode code 636 = .ok (.invokevirtual 68, 3) := by decide +kernel
theorem dd_L_law_639 : decode code 639 = .ok (.iload 5, 2) := by decide +kernel
theorem dd_L_law_641 : decode code 641 = .ok (.if_icmp .eq 5, 3) := by decide +kernel
theorem dd_L_law_644 : decode code 644 = .ok (.iconst 0, 1) := by decide +kernel
theorem dd_L_law_645 : decode code 645 = .ok (.ireturn, 1) := by decide +kernel
theorem dd_L_law_646 : decode code 646 = .ok (.iload 5, 2) := by decide +kernel
theorem dd_L_law_648 : decode code 648 = .ok (.ifCond .ne 15, 3) := by decide +kernel
theorem dd_L_law_651 : decode code 651 = .ok (.aload_n 3, 1) := by decide +kernel
theorem dd_L_law_652 : decode code 652 = .ok (.iconst 0, 1) := by decide +kernel
theorem dd_L_law_653 : decode code 653 = .ok (.laload, 1) := by decide +kernel
theorem dd_L_law_654 : decode code 654 = .ok (.iload 6, 2) := by decide +kernel
theorem dd_L_law_656 : decode code 656 = .ok (.i2l, 1) := by decide +kernel
theorem dd_L_law_657 : decode code 657 = .ok (.lcmp, 1) := by decide +kernel
theorem dd_L_law_658 : decode code 658 = .ok (.ifCond .eq 5, 3) := by decide +kernel
theorem dd_L_law_661 : decode code 661 = .ok (.iconst 0, 1) := by decide +kernel
theorem dd_L_law_662 : decode code 662 = .ok (.ireturn, 1) := by decide +kernel
theorem dd_L_law_663 : decode code 663 = .ok (.goto 327, 3) := by decide +kernel
theorem dd_L_law_666 : decode code 666 = .ok (.aload_n 1, 1) := by decide +kernel
theorem dd_L_law_667 : decode code 667 = .ok (.aload_n 0, 1) := by decide +kernel
theorem dd_L_law_668 : decode code 668 = .ok (.iload 4, 2) := by decide +kernel
theorem dd_L_law_670 : decode code 670 = .ok (.iconst 1, 1) := by decide +kernel
theorem dd_L_law_671 : decode code 671 = .ok (.iadd, 1) := by decide +kernel
theorem dd_L_law_672 : decode code 672 = .ok (.iaload, 1) := by decide +kernel
theorem dd_L_law_673 : decode code 673 = .ok (.aload_n 0, 1) := by decide +kernel
theorem dd_L_law_674 : decode code 674 = .ok (.iload 4, 2) := by decide +kernel
theorem dd_L_law_676 : decode code 676 = .ok (.iconst 2, 1) := by decide +kernel
theorem dd_L_law_677 : decode code 677 = .ok (.iadd, 1) := by decide +kernel
theorem dd_L_law_678 : decode code 678 = .ok (.iaload, 1) := by decide +kernel
theorem dd_L_law_679 : decode code 679 = .ok (.aload_n 3, 1) := by decide +kernel
theorem dd_L_law_680 : decode code 680 = .ok (.invokestatic 101, 3) := by decide +kernel
theorem dd_L_law_683 : decode code 683 = .ok (.istore 5, 2) := by decide +kernel
theorem dd_L_law_685 : decode code 685 = .ok (.aload_n 2, 1) := by decide +kernel
theorem dd_L_law_686 : decode code 686 = .ok (.aload_n 0, 1) := by decide +kernel
theorem dd_L_law_687 : decode code 687 = .ok (.iload 4, 2) := by decide +kernel
theorem dd_L_law_689 : decode code 689 = .ok (.iconst 1, 1) := by decide +kernel
theorem dd_L_law_690 : decode code 690 = .ok (.iadd, 1) := by decide +kernel
theorem dd_L_law_691 : decode code 691 = .ok (.iaload, 1) := by decide +kernel
theorem dd_L_law_692 : decode code 692 = .ok (.aload_n 0, 1) := by decide +kernel
theorem dd_L_law_693 : decode code 693 = .ok (.iload 4, 2) := by decide +kernel
theorem dd_L_law_695 : decode code 695 = .ok (.iconst 2, 1) := by decide +kernel
theorem dd_L_law_696 : decode code 696 = .ok (.iadd, 1) := by decide +kernel
theorem dd_L_law_697 : decode code 697 = .ok (.iaload, 1) := by decide +kernel
theorem dd_L_law_698 : decode code 698 = .ok (.invokevirtual 104, 3) := by decide +kernel
theorem dd_L_law_701 : decode code 701 = .ok (.istore 6, 2) := by decide +kernel
theorem dd_L_law_703 : decode code 703 = .ok (.aload_n 2, 1) := by decide +kernel
theorem dd_L_law_704 : decode code 704 = .ok (.invokevirtual 68, 3) := by decide +kernel
theorem dd_L_law_707 : decode code 707 = .ok (.iload 5, 2) := by decide +kernel
theorem dd_L_law_709 : decode code 709 = .ok (.if_icmp .eq 5, 3) := by decide +kernel
theorem dd_L_law_712 : decode code 712 = .ok (.iconst 0, 1) := by decide +kernel
theorem dd_L_law_713 : decode code 713 = .ok (.ireturn, 1) := by decide +kernel
theorem dd_L_law_714 : decode code 714 = .ok (.iload 5, 2) := by decide +kernel
theorem dd_L_law_716 : decode code 716 = .ok (.ifCond .ne 15, 3) := by decide +kernel
theorem dd_L_law_719 : decode code 719 = .ok (.aload_n 3, 1) := by decide +kernel
theorem dd_L_law_720 : decode code 720 = .ok (.iconst 0, 1) := by decide +kernel
theorem dd_L_law_721 : decode code 721 = .ok (.laload, 1) := by decide +kernel
theorem dd_L_law_722 : decode code 722 = .ok (.iload 6, 2) := by decide +kernel
theorem dd_L_law_724 : decode code 724 = .ok (.i2l, 1) := by decide +kernel
theorem dd_L_law_725 : decode code 725 = .ok (.lcmp, 1) := by decide +kernel
theorem dd_L_law_726 : decode code 726 = .ok (.ifCond .eq 5, 3) := by decide +kernel
theorem dd_L_law_729 : decode code 729 = .ok (.iconst 0, 1) := by decide +kernel
theorem dd_L_law_730 : decode code 730 = .ok (.ireturn, 1) := by decide +kernel
theorem dd_L_law_731 : decode code 731 = .ok (.goto 259, 3) := by decide +kernel
theorem dd_L_law_734 : decode code 734 = .ok (.aload_n 1, 1) := by decide +kernel
theorem dd_L_law_735 : decode code 735 = .ok (.aload_n 3, 1) := by decide +kernel
theorem dd_L_law_736 : decode code 736 = .ok (.invokestatic 105, 3) := by decide +kernel
theorem dd_L_law_739 : decode code 739 = .ok (.istore 5, 2) := by decide +kernel
theorem dd_L_law_741 : decode code 741 = .ok (.aload_n 2, 1) := by decide +kernel
theorem dd_L_law_742 : decode code 742 = .ok (.invokevirtual 108, 3) := by decide +kernel
theorem dd_L_law_745 : decode code 745 = .ok (.istore 6, 2) := by decide +kernel
theorem dd_L_law_747 : decode code 747 = .ok (.aload_n 2, 1) := by decide +kernel
theorem dd_L_law_748 : decode code 748 = .ok (.invokevirtual 68, 3) := by decide +kernel
theorem dd_L_law_751 : decode code 751 = .ok (.iload 5, 2) := by decide +kernel
theorem dd_L_law_753 : decode code 753 = .ok (.if_icmp .eq 5, 3) := by decide +kernel
theorem dd_L_law_756 : decode code 756 = .ok (.iconst 0, 1) := by decide +kernel
theorem dd_L_law_757 : decode code 757 = .ok (.ireturn, 1) := by decide +kernel
theorem dd_L_law_758 : decode code 758 = .ok (.iload 5, 2) := by decide +kernel
theorem dd_L_law_760 : decode code 760 = .ok (.ifCond .ne 15, 3) := by decide +kernel
theorem dd_L_law_763 : decode code 763 = .ok (.aload_n 3, 1) := by decide +kernel
theorem dd_L_law_764 : decode code 764 = .ok (.iconst 0, 1) := by decide +kernel
theorem dd_L_law_765 : decode code 765 = .ok (.laload, 1) := by decide +kernel
theorem dd_L_law_766 : decode code 766 = .ok (.iload 6, 2) := by decide +kernel
theorem dd_L_law_768 : decode code 768 = .ok (.i2l, 1) := by decide +kernel
theorem dd_L_law_769 : decode code 769 = .ok (.lcmp, 1) := by decide +kernel
theorem dd_L_law_770 : decode code 770 = .ok (.ifCond .eq 5, 3) := by decide +kernel
theorem dd_L_law_773 : decode code 773 = .ok (.iconst 0, 1) := by decide +kernel
theorem dd_L_law_774 : decode code 774 = .ok (.ireturn, 1) := by decide +kernel
theorem dd_L_law_775 : decode code 775 = .ok (.goto 215, 3) := by decide +kernel
theorem dd_L_law_778 : decode code 778 = .ok (.aload_n 1, 1) := by decide +kernel
theorem dd_L_law_779 : decode code 779 = .ok (.invokevirtual 109, 3) := by decide +kernel
theorem dd_L_law_782 : decode code 782 = .ok (.aload_n 2, 1) := by decide +kernel
theorem dd_L_law_783 : decode code 783 = .ok (.invokevirtual 112, 3) := by decide +kernel
theorem dd_L_law_786 : decode code 786 = .ok (.if_icmp .eq 204, 3) := by decide +kernel
theorem dd_L_law_789 : decode code 789 = .ok (.iconst 0, 1) := by decide +kernel
theorem dd_L_law_790 : decode code 790 = .ok (.ireturn, 1) := by decide +kernel
theorem dd_L_law_791 : decode code 791 = .ok (.aload_n 1, 1) := by decide +kernel
theorem dd_L_law_792 : decode code 792 = .ok (.aload_n 0, 1) := by decide +kernel
theorem dd_L_law_793 : decode code 793 = .ok (.iload 4, 2) := by decide +kernel
theorem dd_L_law_795 : decode code 795 = .ok (.iconst 1, 1) := by decide +kernel
theorem dd_L_law_796 : decode code 796 = .ok (.iadd, 1) := by decide +kernel
theorem dd_L_law_797 : decode code 797 = .ok (.iaload, 1) := by decide +kernel
theorem dd_L_law_798 : decode code 798 = .ok (.aload_n 3, 1) := by decide +kernel
theorem dd_L_law_799 : decode code 799 = .ok (.invokestatic 113, 3) := by decide +kernel
theorem dd_L_law_802 : decode code 802 = .ok (.istore 5, 2) := by decide +kernel
theorem dd_L_law_804 : decode code 804 = .ok (.aload_n 2, 1) := by decide +kernel
theorem dd_L_law_805 : decode code 805 = .ok (.aload_n 0, 1) := by decide +kernel
theorem dd_L_law_806 : decode code 806 = .ok (.iload 4, 2) := by decide +kernel
theorem dd_L_law_808 : decode code 808 = .ok (.iconst 1, 1) := by decide +kernel
theorem dd_L_law_809 : decode code 809 = .ok (.iadd, 1) := by decide +kernel
theorem dd_L_law_810 : decode code 810 = .ok (.iaload, 1) := by decide +kernel
theorem dd_L_law_811 : decode code 811 = .ok (.invokevirtual 116, 3) := by decide +kernel
theorem dd_L_law_814 : decode code 814 = .ok (.istore 6, 2) := by decide +kernel
theorem dd_L_law_816 : decode code 816 = .ok (.aload_n 2, 1) := by decide +kernel
theorem dd_L_law_817 : decode code 817 = .ok (.invokevirtual 68, 3) := by decide +kernel
theorem dd_L_law_820 : decode code 820 = .ok (.iload 5, 2) := by decide +kernel
theorem dd_L_law_822 : decode code 822 = .ok (.if_icmp .eq 5, 3) := by decide +kernel
theorem dd_L_law_825 : decode code 825 = .ok (.iconst 0, 1) := by decide +kernel
theorem dd_L_law_826 : decode code 826 = .ok (.ireturn, 1) := by decide +kernel
theorem dd_L_law_827 : decode code 827 = .ok (.iload 5, 2) := by decide +kernel
theorem dd_L_law_829 : decode code 829 = .ok (.ifCond .ne 15, 3) := by decide +kernel
theorem dd_L_law_832 : decode code 832 = .ok (.aload_n 3, 1) := by decide +kernel
theorem dd_L_law_833 : decode code 833 = .ok (.iconst 0, 1) := by decide +kernel
theorem dd_L_law_834 : decode code 834 = .ok (.laload, 1) := by decide +kernel
theorem dd_L_law_835 : decode code 835 = .ok (.iload 6, 2) := by decide +kernel
theorem dd_L_law_837 : decode code 837 = .ok (.i2l, 1) := by decide +kernel
theorem dd_L_law_838 : decode code 838 = .ok (.lcmp, 1) := by decide +kernel
theorem dd_L_law_839 : decode code 839 = .ok (.ifCond .eq 5, 3) := by decide +kernel
theorem dd_L_law_842 : decode code 842 = .ok (.iconst 0, 1) := by decide +kernel
theorem dd_L_law_843 : decode code 843 = .ok (.ireturn, 1) := by decide +kernel
theorem dd_L_law_844 : decode code 844 = .ok (.goto 146, 3) := by decide +kernel
theorem dd_L_law_847 : decode code 847 = .ok (.aload_n 1, 1) := by decide +kernel
theorem dd_L_law_848 : decode code 848 = .ok (.aload_n 0, 1) := by decide +kernel
theorem dd_L_law_849 : decode code 849 = .ok (.iload 4, 2) := by decide +kernel
theorem dd_L_law_851 : decode code 851 = .ok (.iconst 1, 1) := by decide +kernel
theorem dd_L_law_852 : decode code 852 = .ok (.iadd, 1) := by decide +kernel
theorem dd_L_law_853 : decode code 853 = .ok (.iaload, 1) := by decide +kernel
theorem dd_L_law_854 : decode code 854 = .ok (.invokevirtual 117, 3) := by decide +kernel
theorem dd_L_law_857 : decode code 857 = .ok (.aload_n 2, 1) := by decide +kernel
theorem dd_L_law_858 : decode code 858 = .ok (.aload_n 0, 1) := by decide +kernel
theorem dd_L_law_859 : decode code 859 = .ok (.iload 4, 2) := by decide +kernel
theorem dd_L_law_861 : decode code 861 = .ok (.iconst 1, 1) := by decide +kernel
theorem dd_L_law_862 : decode code 862 = .ok (.iadd, 1) := by decide +kernel
theorem dd_L_law_863 : decode code 863 = .ok (.iaload, 1) := by decide +kernel
theorem dd_L_law_864 : decode code 864 = .ok (.invokevirtual 120, 3) := by decide +kernel
theorem dd_L_law_867 : decode code 867 = .ok (.if_icmp .eq 123, 3) := by decide +kernel
theorem dd_L_law_870 : decode code 870 = .ok (.iconst 0, 1) := by decide +kernel
theorem dd_L_law_871 : decode code 871 = .ok (.ireturn, 1) := by decide +kernel
theorem dd_L_law_872 : decode code 872 = .ok (.aload_n 1, 1) := by decide +kernel
theorem dd_L_law_873 : decode code 873 = .ok (.aload_n 0, 1) := by decide +kernel
theorem dd_L_law_874 : decode code 874 = .ok (.iload 4, 2) := by decide +kernel
theorem dd_L_law_876 : decode code 876 = .ok (.iconst 1, 1) := by decide +kernel
theorem dd_L_law_877 : decode code 877 = .ok (.iadd, 1) := by decide +kernel
theorem dd_L_law_878 : decode code 878 = .ok (.iaload, 1) := by decide +kernel
theorem dd_L_law_879 : decode code 879 = .ok (.aload_n 0, 1) := by decide +kernel
theorem dd_L_law_880 : decode code 880 = .ok (.iload 4, 2) := by decide +kernel
theorem dd_L_law_882 : decode code 882 = .ok (.iconst 2, 1) := by decide +kernel
theorem dd_L_law_883 : decode code 883 = .ok (.iadd, 1) := by decide +kernel
theorem dd_L_law_884 : decode code 884 = .ok (.iaload, 1) := by decide +kernel
theorem dd_L_law_885 : decode code 885 = .ok (.invokevirtual 121, 3) := by decide +kernel
theorem dd_L_law_888 : decode code 888 = .ok (.aload_n 2, 1) := by decide +kernel
theorem dd_L_law_889 : decode code 889 = .ok (.aload_n 0, 1) := by decide +kernel
theorem dd_L_law_890 : decode code 890 = .ok (.iload 4, 2) := by decide +kernel
theorem dd_L_law_892 : decode code 892 = .ok (.iconst 1, 1) := by decide +kernel
theorem dd_L_law_893 : decode code 893 = .ok (.iadd, 1) := by decide +kernel
theorem dd_L_law_894 : decode code 894 = .ok (.iaload, 1) := by decide +kernel
theorem dd_L_law_895 : decode code 895 = .ok (.aload_n 0, 1) := by decide +kernel
theorem dd_L_law_896 : decode code 896 = .ok (.iload 4, 2) := by decide +kernel
theorem dd_L_law_898 : decode code 898 = .ok (.iconst 2, 1) := by decide +kernel
theorem dd_L_law_899 : decode code 899 = .ok (.iadd, 1) := by decide +kernel
theorem dd_L_law_900 : decode code 900 = .ok (.iaload, 1) := by decide +kernel
theorem dd_L_law_901 : decode code 901 = .ok (.invokevirtual 124, 3) := by decide +kernel
theorem dd_L_law_904 : decode code 904 = .ok (.if_icmp .eq 86, 3) := by decide +kernel
theorem dd_L_law_907 : decode code 907 = .ok (.iconst 0, 1) := by decide +kernel
theorem dd_L_law_908 : decode code 908 = .ok (.ireturn, 1) := by decide +kernel
theorem dd_L_law_909 : decode code 909 = .ok (.aload_n 1, 1) := by decide +kernel
theorem dd_L_law_910 : decode code 910 = .ok (.aload_n 0, 1) := by decide +kernel
theorem dd_L_law_911 : decode code 911 = .ok (.iload 4, 2) := by decide +kernel
theorem dd_L_law_913 : decode code 913 = .ok (.iconst 1, 1) := by decide +kernel
theorem dd_L_law_914 : decode code 914 = .ok (.iadd, 1) := by decide +kernel
theorem dd_L_law_915 : decode code 915 = .ok (.iaload, 1) := by decide +kernel
theorem dd_L_law_916 : decode code 916 = .ok (.invokevirtual 125, 3) := by decide +kernel
theorem dd_L_law_919 : decode code 919 = .ok (.aload_n 2, 1) := by decide +kernel
theorem dd_L_law_920 : decode code 920 = .ok (.aload_n 0, 1) := by decide +kernel
theorem dd_L_law_921 : decode code 921 = .ok (.iload 4, 2) := by decide +kernel
theorem dd_L_law_923 : decode code 923 = .ok (.iconst 1, 1) := by decide +kernel
theorem dd_L_law_924 : decode code 924 = .ok (.iadd, 1) := by decide +kernel
theorem dd_L_law_925 : decode code 925 = .ok (.iaload, 1) := by decide +kernel
theorem dd_L_law_926 : decode code 926 = .ok (.invokevirtual 128, 3) := by decide +kernel
theorem dd_L_law_929 : decode code 929 = .ok (.if_icmp .eq 61, 3) := by decide +kernel
theorem dd_L_law_932 : decode code 932 = .ok (.iconst 0, 1) := by decide +kernel
theorem dd_L_law_933 : decode code 933 = .ok (.ireturn, 1) := by decide +kernel
theorem dd_L_law_934 : decode code 934 = .ok (.aload_n 1, 1) := by decide +kernel
theorem dd_L_law_935 : decode code 935 = .ok (.aload_n 0, 1) := by decide +kernel
theorem dd_L_law_936 : decode code 936 = .ok (.iload 4, 2) := by decide +kernel
theorem dd_L_law_938 : decode code 938 = .ok (.iconst 1, 1) := by decide +kernel
theorem dd_L_law_939 : decode code 939 = .ok (.iadd, 1) := by decide +kernel
theorem dd_L_law_940 : decode code 940 = .ok (.iaload, 1) := by decide +kernel
theorem dd_L_law_941 : decode code 941 = .ok (.aload_n 3, 1) := by decide +kernel
theorem dd_L_law_942 : decode code 942 = .ok (.invokestatic 129, 3) := by decide +kernel
theorem dd_L_law_945 : decode code 945 = .ok (.istore 5, 2) := by decide +kernel
theorem dd_L_law_947 : decode code 947 = .ok (.aload_n 2, 1) := by decide +kernel
theorem dd_L_law_948 : decode code 948 = .ok (.aload_n 0, 1) := by decide +kernel
theorem dd_L_law_949 : decode code 949 = .ok (.iload 4, 2) := by decide +kernel
theorem dd_L_law_951 : decode code 951 = .ok (.iconst 1, 1) := by decide +kernel
theorem dd_L_law_952 : decode code 952 = .ok (.iadd, 1) := by decide +kernel
theorem dd_L_law_953 : decode code 953 = .ok (.iaload, 1) := by decide +kernel
theorem dd_L_law_954 : decode code 954 = .ok (.invokevirtual 131, 3) := by decide +kernel
theorem dd_L_law_957 : decode code 957 = .ok (.istore 6, 2) := by decide +kernel
theorem dd_L_law_959 : decode code 959 = .ok (.aload_n 2, 1) := by decide +kernel
theorem dd_L_law_960 : decode code 960 = .ok (.invokevirtual 68, 3) := by decide +kernel
theorem dd_L_law_963 : decode code 963 = .ok (.iload 5, 2) := by decide +kernel
theorem dd_L_law_965 : decode code 965 = .ok (.if_icmp .eq 5, 3) := by decide +kernel
theorem dd_L_law_968 : decode code 968 = .ok (.iconst 0, 1) := by decide +kernel
theorem dd_L_law_969 : decode code 969 = .ok (.ireturn, 1) := by decide +kernel
theorem dd_L_law_970 : decode code 970 = .ok (.iload 5, 2) := by decide +kernel
theorem dd_L_law_972 : decode code 972 = .ok (.ifCond .ne 15, 3) := by decide +kernel
theorem dd_L_law_975 : decode code 975 = .ok (.aload_n 3, 1) := by decide +kernel
theorem dd_L_law_976 : decode code 976 = .ok (.iconst 0, 1) := by decide +kernel
theorem dd_L_law_977 : decode code 977 = .ok (.laload, 1) := by decide +kernel
theorem dd_L_law_978 : decode code 978 = .ok (.iload 6, 2) := by decide +kernel
theorem dd_L_law_980 : decode code 980 = .ok (.i2l, 1) := by decide +kernel
theorem dd_L_law_981 : decode code 981 = .ok (.lcmp, 1) := by decide +kernel
theorem dd_L_law_982 : decode code 982 = .ok (.ifCond .eq 5, 3) := by decide +kernel
theorem dd_L_law_985 : decode code 985 = .ok (.iconst 0, 1) := by decide +kernel
theorem dd_L_law_986 : decode code 986 = .ok (.ireturn, 1) := by decide +kernel
theorem dd_L_law_987 : decode code 987 = .ok (.goto 3, 3) := by decide +kernel
theorem dd_L_law_990 : decode code 990 = .ok (.iinc 4 6, 3) := by decide +kernel
theorem dd_L_law_993 : decode code 993 = .ok (.goto (-970), 3) := by decide +kernel
theorem dd_L_law_996 : decode code 996 = .ok (.iconst 1, 1) := by decide +kernel
theorem dd_L_law_997 : decode code 997 = .ok (.ireturn, 1) := by decide +kernel
end
section
theorem dd_J_compare_0 : decode b_J_compare 0 = .ok (.iload_n 0, 1) := by decide +kernel
theorem dd_J_compare_1 : decode b_J_compare 1 = .ok (.iload_n 1, 1) := by decide +kernel
theorem dd_J_compare_2 : decode b_J_compare 2 = .ok (.if_icmp .ge 7, 3) := by decide +kernel
theorem dd_J_compare_5 : decode b_J_compare 5 = .ok (.iconst (-1), 1) := by decide +kernel
theorem dd_J_compare_6 : decode b_J_compare 6 = .ok (.goto 13, 3) := by decide +kernel
theorem dd_J_compare_9 : decode b_J_compare 9 = .ok (.iload_n 0, 1) := by decide +kernel
theorem dd_J_compare_10 : decode b_J_compare 10 = .ok (.iload_n 1, 1) := by decide +kernel
theorem dd_J_compare_11 : decode b_J_compare 11 = .ok (.if_icmp .ne 7, 3) := by decide +kernel
theorem dd_J_compare_14 : decode b_J_compare 14 = .ok (.iconst 0, 1) := by decide +kernel
theorem dd_J_compare_15 : decode b_J_compare 15 = .ok (.goto 4, 3) := by decide +kernel
theorem dd_J_compare_18 : decode b_J_compare 18 = .ok (.iconst 1, 1) := by decide +kernel
theorem dd_J_compare_19 : decode b_J_compare 19 = .ok (.ireturn, 1) := by decide +kernel
theorem dd_J_copyB_0 : decode b_J_copyB 0 = .ok (.iload_n 1, 1) := by decide +kernel
theorem dd_J_copyB_1 : decode b_J_copyB 1 = .ok (.aload_n 0, 1) := by decide +kernel
theorem dd_J_copyB_2 : decode b_J_copyB 2 = .ok (.arraylength, 1) := by decide +kernel
theorem dd_J_copyB_3 : decode b_J_copyB 3 = .ok (.if_icmp .ne 11, 3) := by decide +kernel
theorem dd_J_copyB_14 : decode b_J_copyB 14 = .ok (.iload_n 1, 1) := by decide +kernel
theorem dd_J_copyB_15 : decode b_J_copyB 15 = .ok (.newarray .byte, 2) := by decide +kernel
theorem dd_J_copyB_17 : decode b_J_copyB 17 = .ok (.astore_n 2, 1) := by decide +kernel
theorem dd_J_copyB_18 : decode b_J_copyB 18 = .ok (.aload_n 0, 1) := by decide +kernel
theorem dd_J_copyB_19 : decode b_J_copyB 19 = .ok (.iconst 0, 1) := by decide +kernel
theorem dd_J_copyB_20 : decode b_J_copyB 20 = .ok (.aload_n 2, 1) := by decide +kernel
theorem dd_J_copyB_21 : decode b_J_copyB 21 = .ok (.iconst 0, 1) := by decide +kernel
theorem dd_J_copyB_22 : decode b_J_copyB 22 = .ok (.aload_n 0, 1) := by decide +kernel
theorem dd_J_copyB_23 : decode b_J_copyB 23 = .ok (.arraylength, 1) := by decide +kernel
theorem dd_J_copyB_24 : decode b_J_copyB 24 = .ok (.iload_n 1, 1) := by decide +kernel
theorem dd_J_copyB_25 : decode b_J_copyB 25 = .ok (.invokestatic 304, 3) := by decide +kernel
theorem dd_J_copyB_28 : decode b_J_copyB 28 = .ok (.invokestatic 150, 3) := by decide +kernel
theorem dd_J_copyB_31 : decode b_J_copyB 31 = .ok (.aload_n 2, 1) := by decide +kernel
theorem dd_J_copyB_32 : decode b_J_copyB 32 = .ok (.areturn, 1) := by decide +kernel
theorem dd_J_copyI_0 : decode b_J_copyI 0 = .ok (.iload_n 1, 1) := by decide +kernel
theorem dd_J_copyI_1 : decode b_J_copyI 1 = .ok (.aload_n 0, 1) := by decide +kernel
theorem dd_J_copyI_2 : decode b_J_copyI 2 = .ok (.arraylength, 1) := by decide +kernel
theorem dd_J_copyI_3 : decode b_J_copyI 3 = .ok (.if_icmp .ne 11, 3) := by decide +kernel
theorem dd_J_copyI_14 : decode b_J_copyI 14 = .ok (.iload_n 1, 1) := by decide +kernel
theorem dd_J_copyI_15 : decode b_J_copyI 15 = .ok (.newarray .int, 2) := by decide +kernel
theorem dd_J_copyI_17 : decode b_J_copyI 17 = .ok (.astore_n 2, 1) := by decide +kernel
theorem dd_J_copyI_18 : decode b_J_copyI 18 = .ok (.aload_n 0, 1) := by decide +kernel
theorem dd_J_copyI_19 : decode b_J_copyI 19 = .ok (.iconst 0, 1) := by decide +kernel
theorem dd_J_copyI_20 : decode b_J_copyI 20 = .ok (.aload_n 2, 1) := by decide +kernel
theorem dd_J_copyI_21 : decode b_J_copyI 21 = .ok (.iconst 0, 1) := by decide +kernel
theorem dd_J_copyI_22 : decode b_J_copyI 22 = .ok (.aload_n 0, 1) := by decide +kernel
theorem dd_J_copyI_23 : decode b_J_copyI 23 = .ok (.arraylength, 1) := by decide +kernel
theorem dd_J_copyI_24 : decode b_J_copyI 24 = .ok (.iload_n 1, 1) := by decide +kernel
theorem dd_J_copyI_25 : decode b_J_copyI 25 = .ok (.invokestatic 304, 3) := by decide +kernel
theorem dd_J_copyI_28 : decode b_J_copyI 28 = .ok (.invokestatic 150, 3) := by decide +kernel
theorem dd_J_copyI_31 : decode b_J_copyI 31 = .ok (.aload_n 2, 1) := by decide +kernel
theorem dd_J_copyI_32 : decode b_J_copyI 32 = .ok (.areturn, 1) := by decide +kernel
end
section
theorem mq_1 {w : Cond} (h : w ∈ tables_1_1) : w ∈ lw_tbl := by unfold lw_tbl tables_1; exact List.mem_append_right _ (List.mem_append_left _ h)
theorem mq_2 {w : Cond} (h : w ∈ tables_1_2) : w ∈ lw_tbl := by unfold lw_tbl tables_1; exact List.mem_append_right _ (List.mem_append_right _ (List.mem_append_left _ h))
theorem mq_3 {w : Cond} (h : w ∈ tables_1_3) : w ∈ lw_tbl := by unfold lw_tbl tables_1; exact List.mem_append_right _ (List.mem_append_right _ (List.mem_append_right _ (List.mem_append_left _ h)))
theorem mq_4 {w : Cond} (h : w ∈ tables_1_4) : w ∈ lw_tbl := by unfold lw_tbl tables_1; exact List.mem_append_right _ (List.mem_append_right _ (List.mem_append_right _ (List.mem_append_right _ (List.mem_append_left _ h))))
theorem mq_5 {w : Cond} (h : w ∈ tables_1_5) : w ∈ lw_tbl := by unfold lw_tbl tables_1; exact List.mem_append_right _ (List.mem_append_right _ (List.mem_append_right _ (List.mem_append_right _ (List.mem_append_right _ h))))
theorem mw_1 : (Jvm.Cond.initialized "LineSorter") ∈ lw_tbl := mq_1 (List.mem_of_getElem? (i := 1) rfl)
theorem mw_2 : (Jvm.Cond.initialized "LineSorter$Text") ∈ lw_tbl := mq_1 (List.mem_of_getElem? (i := 2) rfl)
theorem mw_3 : (Jvm.Cond.initialized "LineSorter$Places") ∈ lw_tbl := mq_1 (List.mem_of_getElem? (i := 3) rfl)
theorem mw_4 : (Jvm.Cond.initialized "LineSorter$Order") ∈ lw_tbl := mq_1 (List.mem_of_getElem? (i := 4) rfl)
theorem mw_5 : (Jvm.Cond.initialized "LineSorter$Key") ∈ lw_tbl := mq_1 (List.mem_of_getElem? (i := 5) rfl)
theorem mw_6 : (Jvm.Cond.initialized "LineSorter$Numeral") ∈ lw_tbl := mq_1 (List.mem_of_getElem? (i := 6) rfl)
theorem mw_7 : (Jvm.Cond.initialized "LineSorter$Ranking") ∈ lw_tbl := mq_1 (List.mem_of_getElem? (i := 7) rfl)
theorem mw_8 : (Jvm.Cond.initialized "LineSorter$Heap") ∈ lw_tbl := mq_1 (List.mem_of_getElem? (i := 8) rfl)
theorem mw_9 : (Jvm.Cond.initialized "LineSorter$Runs") ∈ lw_tbl := mq_1 (List.mem_of_getElem? (i := 9) rfl)
theorem mw_10 : (Jvm.Cond.initialized "LineSorterModel") ∈ lw_tbl := mq_1 (List.mem_of_getElem? (i := 10) rfl)
theorem mw_15 : (Jvm.Cond.initialized "java/util/Arrays") ∈ lw_tbl := mq_1 (List.mem_of_getElem? (i := 15) rfl)
theorem mw_16 : (Jvm.Cond.initialized "java/lang/Math") ∈ lw_tbl := mq_1 (List.mem_of_getElem? (i := 16) rfl)
theorem mw_21 : (Jvm.Cond.initialized "java/lang/Integer") ∈ lw_tbl := mq_1 (List.mem_of_getElem? (i := 21) rfl)
theorem mw_22 : (Jvm.Cond.classLink "LineSorterLaw" (8 : Nat) "LineSorter") ∈ lw_tbl := mq_1 (List.mem_of_getElem? (i := 22) rfl)
theorem mw_23 : (Jvm.Cond.instantiable "LineSorter" (10 : Nat)) ∈ lw_tbl := mq_1 (List.mem_of_getElem? (i := 23) rfl)
theorem mw_24 : (Jvm.Cond.methodLink "LineSorterLaw" (58 : Nat) ({ cls := "LineSorter", name := "<init>", desc := "()V" } : Jvm.MethodName)) ∈ lw_tbl := mq_1 (List.mem_of_getElem? (i := 24) rfl)
theorem mw_25 : (Jvm.Cond.instanceMethod ({ cls := "LineSorter", name := "<init>", desc := "()V" } : Jvm.MethodName)) ∈ lw_tbl := mq_1 (List.mem_of_getElem? (i := 25) rfl)
theorem mw_26 : (Jvm.Cond.code ({ cls := "LineSorter", name := "<init>", desc := "()V" } : Jvm.MethodName) prog_1_method_1_code (1 : Nat) (Option.none : Option Jvm.ClassFile.FieldType)) ∈ lw_tbl := mq_1 (List.mem_of_getElem? (i := 26) rfl)
theorem mw_27 : (Jvm.Cond.methodLink "LineSorter" (1 : Nat) ({ cls := "java/lang/Object", name := "<init>", desc := "()V" } : Jvm.MethodName)) ∈ lw_tbl := mq_1 (List.mem_of_getElem? (i := 27) rfl)
theorem mw_30 : (Jvm.Cond.classLink "LineSorter" (7 : Nat) "LineSorter$Text") ∈ lw_tbl := mq_1 (List.mem_of_getElem? (i := 30) rfl)
theorem mw_31 : (Jvm.Cond.instantiable "LineSorter$Text" (4 : Nat)) ∈ lw_tbl := mq_1 (List.mem_of_getElem? (i := 31) rfl)
theorem mw_32 : (Jvm.Cond.methodLink "LineSorter" (9 : Nat) ({ cls := "LineSorter$Text", name := "<init>", desc := "()V" } : Jvm.MethodName)) ∈ lw_tbl := mq_1 (List.mem_of_getElem? (i := 32) rfl)
theorem mw_33 : (Jvm.Cond.instanceMethod ({ cls := "LineSorter$Text", name := "<init>", desc := "()V" } : Jvm.MethodName)) ∈ lw_tbl := mq_1 (List.mem_of_getElem? (i := 33) rfl)
theorem mw_34 : (Jvm.Cond.code ({ cls := "LineSorter$Text", name := "<init>", desc := "()V" } : Jvm.MethodName) prog_9_method_1_code (1 : Nat) (Option.none : Option Jvm.ClassFile.FieldType)) ∈ lw_tbl := mq_1 (List.mem_of_getElem? (i := 34) rfl)
theorem mw_35 : (Jvm.Cond.methodLink "LineSorter$Text" (3 : Nat) ({ cls := "java/lang/Object", name := "<init>", desc := "()V" } : Jvm.MethodName)) ∈ lw_tbl := mq_1 (List.mem_of_getElem? (i := 35) rfl)
theorem mw_36 : (Jvm.Cond.fieldLink "LineSorter$Text" (11 : Nat) "LineSorter$Text" "bytes" "[B") ∈ lw_tbl := mq_1 (List.mem_of_getElem? (i := 36) rfl)
theorem mw_37 : (Jvm.Cond.fieldLinkNest "LineSorter$Places" (58 : Nat) "LineSorter$Text" "bytes" "[B" "LineSorter") ∈ lw_tbl := mq_1 (List.mem_of_getElem? (i := 37) rfl)
theorem mw_38 : (Jvm.Cond.fieldLink "LineSorter$Text" (15 : Nat) "LineSorter$Text" "length" "I") ∈ lw_tbl := mq_1 (List.mem_of_getElem? (i := 38) rfl)
theorem mw_39 : (Jvm.Cond.fieldLinkNest "LineSorter" (73 : Nat) "LineSorter$Text" "length" "I" "LineSorter") ∈ lw_tbl := mq_1 (List.mem_of_getElem? (i := 39) rfl)
theorem mw_40 : (Jvm.Cond.fieldLink "LineSorter$Text" (19 : Nat) "LineSorter$Text" "breaks" "[I") ∈ lw_tbl := mq_1 (List.mem_of_getElem? (i := 40) rfl)
theorem mw_41 : (Jvm.Cond.fieldLink "LineSorter$Text" (23 : Nat) "LineSorter$Text" "breakCount" "I") ∈ lw_tbl := mq_1 (List.mem_of_getElem? (i := 41) rfl)
theorem mw_42 : (Jvm.Cond.lays "LineSorter$Text" "LineSorter$Text" "bytes" "[B") ∈ lw_tbl := mq_1 (List.mem_of_getElem? (i := 42) rfl)
theorem mw_44 : (Jvm.Cond.lays "LineSorter$Text" "LineSorter$Text" "length" "I") ∈ lw_tbl := mq_1 (List.mem_of_getElem? (i := 44) rfl)
theorem mw_46 : (Jvm.Cond.lays "LineSorter$Text" "LineSorter$Text" "breaks" "[I") ∈ lw_tbl := mq_1 (List.mem_of_getElem? (i := 46) rfl)
theorem mw_48 : (Jvm.Cond.lays "LineSorter$Text" "LineSorter$Text" "breakCount" "I") ∈ lw_tbl := mq_1 (List.mem_of_getElem? (i := 48) rfl)
theorem mw_53 : (Jvm.Cond.classLink "LineSorter" (16 : Nat) "LineSorter$Places") ∈ lw_tbl := mq_1 (List.mem_of_getElem? (i := 53) rfl)
theorem mw_54 : (Jvm.Cond.instantiable "LineSorter$Places" (2 : Nat)) ∈ lw_tbl := mq_1 (List.mem_of_getElem? (i := 54) rfl)
theorem mw_55 : (Jvm.Cond.methodLink "LineSorter" (18 : Nat) ({ cls := "LineSorter$Places", name := "<init>", desc := "(LLineSorter$Text;)V" } : Jvm.MethodName)) ∈ lw_tbl := mq_1 (List.mem_of_getElem? (i := 55) rfl)
theorem mw_56 : (Jvm.Cond.instanceMethod ({ cls := "LineSorter$Places", name := "<init>", desc := "(LLineSorter$Text;)V" } : Jvm.MethodName)) ∈ lw_tbl := mq_1 (List.mem_of_getElem? (i := 56) rfl)
theorem mw_57 : (Jvm.Cond.code ({ cls := "LineSorter$Places", name := "<init>", desc := "(LLineSorter$Text;)V" } : Jvm.MethodName) prog_6_method_1_code (2 : Nat) (Option.none : Option Jvm.ClassFile.FieldType)) ∈ lw_tbl := mq_1 (List.mem_of_getElem? (i := 57) rfl)
theorem mw_58 : (Jvm.Cond.methodLink "LineSorter$Places" (3 : Nat) ({ cls := "java/lang/Object", name := "<init>", desc := "()V" } : Jvm.MethodName)) ∈ lw_tbl := mq_1 (List.mem_of_getElem? (i := 58) rfl)
theorem mw_59 : (Jvm.Cond.fieldLink "LineSorter$Places" (9 : Nat) "LineSorter$Places" "text" "LLineSorter$Text;") ∈ lw_tbl := mq_1 (List.mem_of_getElem? (i := 59) rfl)
theorem mw_60 : (Jvm.Cond.fieldLink "LineSorter$Places" (15 : Nat) "LineSorter$Places" "fieldSeparator" "I") ∈ lw_tbl := mq_1 (List.mem_of_getElem? (i := 60) rfl)
theorem mw_61 : (Jvm.Cond.fieldLinkNest "LineSorter" (113 : Nat) "LineSorter$Places" "fieldSeparator" "I" "LineSorter") ∈ lw_tbl := mq_1 (List.mem_of_getElem? (i := 61) rfl)
theorem mw_62 : (Jvm.Cond.laysFinal "LineSorter$Places" "LineSorter$Places" "text" "LLineSorter$Text;") ∈ lw_tbl := mq_1 (List.mem_of_getElem? (i := 62) rfl)
theorem mw_64 : (Jvm.Cond.lays "LineSorter$Places" "LineSorter$Places" "fieldSeparator" "I") ∈ lw_tbl := mq_1 (List.mem_of_getElem? (i := 64) rfl)
theorem mw_67 : (Jvm.Cond.classLink "LineSorter" (25 : Nat) "LineSorter$Order") ∈ lw_tbl := mq_1 (List.mem_of_getElem? (i := 67) rfl)
theorem mw_68 : (Jvm.Cond.instantiable "LineSorter$Order" (10 : Nat)) ∈ lw_tbl := mq_1 (List.mem_of_getElem? (i := 68) rfl)
theorem mw_69 : (Jvm.Cond.methodLink "LineSorter" (27 : Nat) ({ cls := "LineSorter$Order", name := "<init>", desc := "(LLineSorter$Text;LLineSorter$Places;)V" } : Jvm.MethodName)) ∈ lw_tbl := mq_1 (List.mem_of_getElem? (i := 69) rfl)
theorem mw_70 : (Jvm.Cond.instanceMethod ({ cls := "LineSorter$Order", name := "<init>", desc := "(LLineSorter$Text;LLineSorter$Places;)V" } : Jvm.MethodName)) ∈ lw_tbl := mq_1 (List.mem_of_getElem? (i := 70) rfl)
theorem mw_71 : (Jvm.Cond.code ({ cls := "LineSorter$Order", name := "<init>", desc := "(LLineSorter$Text;LLineSorter$Places;)V" } : Jvm.MethodName) prog_5_method_1_code (4 : Nat) (Option.none : Option Jvm.ClassFile.FieldType)) ∈ lw_tbl := mq_1 (List.mem_of_getElem? (i := 71) rfl)
theorem mw_72 : (Jvm.Cond.methodLink "LineSorter$Order" (3 : Nat) ({ cls := "java/lang/Object", name := "<init>", desc := "()V" } : Jvm.MethodName)) ∈ lw_tbl := mq_1 (List.mem_of_getElem? (i := 72) rfl)
theorem mw_73 : (Jvm.Cond.classLink "LineSorter$Order" (19 : Nat) "LineSorter$Key") ∈ lw_tbl := mq_1 (List.mem_of_getElem? (i := 73) rfl)
theorem mw_74 : (Jvm.Cond.instantiable "LineSorter$Key" (5 : Nat)) ∈ lw_tbl := mq_1 (List.mem_of_getElem? (i := 74) rfl)
theorem mw_75 : (Jvm.Cond.methodLink "LineSorter$Order" (21 : Nat) ({ cls := "LineSorter$Key", name := "<init>", desc := "(IIIII)V" } : Jvm.MethodName)) ∈ lw_tbl := mq_1 (List.mem_of_getElem? (i := 75) rfl)
theorem mw_76 : (Jvm.Cond.instanceMethod ({ cls := "LineSorter$Key", name := "<init>", desc := "(IIIII)V" } : Jvm.MethodName)) ∈ lw_tbl := mq_1 (List.mem_of_getElem? (i := 76) rfl)
theorem mw_77 : (Jvm.Cond.code ({ cls := "LineSorter$Key", name := "<init>", desc := "(IIIII)V" } : Jvm.MethodName) prog_3_method_1_code (6 : Nat) (Option.none : Option Jvm.ClassFile.FieldType)) ∈ lw_tbl := mq_1 (List.mem_of_getElem? (i := 77) rfl)
theorem mw_78 : (Jvm.Cond.methodLink "LineSorter$Key" (1 : Nat) ({ cls := "java/lang/Object", name := "<init>", desc := "()V" } : Jvm.MethodName)) ∈ lw_tbl := mq_1 (List.mem_of_getElem? (i := 78) rfl)
theorem mw_79 : (Jvm.Cond.fieldLink "LineSorter$Key" (7 : Nat) "LineSorter$Key" "firstField" "I") ∈ lw_tbl := mq_1 (List.mem_of_getElem? (i := 79) rfl)
theorem mw_80 : (Jvm.Cond.fieldLinkNest "LineSorter$Places" (25 : Nat) "LineSorter$Key" "firstField" "I" "LineSorter") ∈ lw_tbl := mq_1 (List.mem_of_getElem? (i := 80) rfl)
theorem mw_81 : (Jvm.Cond.fieldLink "LineSorter$Key" (13 : Nat) "LineSorter$Key" "firstCharacter" "I") ∈ lw_tbl := mq_1 (List.mem_of_getElem? (i := 81) rfl)
theorem mw_82 : (Jvm.Cond.fieldLinkNest "LineSorter$Places" (41 : Nat) "LineSorter$Key" "firstCharacter" "I" "LineSorter") ∈ lw_tbl := mq_1 (List.mem_of_getElem? (i := 82) rfl)
theorem mw_83 : (Jvm.Cond.fieldLink "LineSorter$Key" (16 : Nat) "LineSorter$Key" "lastField" "I") ∈ lw_tbl := mq_1 (List.mem_of_getElem? (i := 83) rfl)
theorem mw_84 : (Jvm.Cond.fieldLinkNest "LineSorter$Places" (49 : Nat) "LineSorter$Key" "lastField" "I" "LineSorter") ∈ lw_tbl := mq_1 (List.mem_of_getElem? (i := 84) rfl)
theorem mw_85 : (Jvm.Cond.fieldLink "LineSorter$Key" (19 : Nat) "LineSorter$Key" "lastCharacter" "I") ∈ lw_tbl := mq_1 (List.mem_of_getElem? (i := 85) rfl)
theorem mw_86 : (Jvm.Cond.fieldLinkNest "LineSorter$Places" (52 : Nat) "LineSorter$Key" "lastCharacter" "I" "LineSorter") ∈ lw_tbl := mq_1 (List.mem_of_getElem? (i := 86) rfl)
theorem mw_87 : (Jvm.Cond.fieldLink "LineSorter$Key" (22 : Nat) "LineSorter$Key" "ownFlags" "I") ∈ lw_tbl := mq_1 (List.mem_of_getElem? (i := 87) rfl)
theorem mw_88 : (Jvm.Cond.fieldLinkNest "LineSorter$Order" (62 : Nat) "LineSorter$Key" "ownFlags" "I" "LineSorter") ∈ lw_tbl := mq_1 (List.mem_of_getElem? (i := 88) rfl)
theorem mw_89 : (Jvm.Cond.laysFinal "LineSorter$Key" "LineSorter$Key" "firstField" "I") ∈ lw_tbl := mq_1 (List.mem_of_getElem? (i := 89) rfl)
theorem mw_91 : (Jvm.Cond.laysFinal "LineSorter$Key" "LineSorter$Key" "firstCharacter" "I") ∈ lw_tbl := mq_1 (List.mem_of_getElem? (i := 91) rfl)
theorem mw_93 : (Jvm.Cond.laysFinal "LineSorter$Key" "LineSorter$Key" "lastField" "I") ∈ lw_tbl := mq_1 (List.mem_of_getElem? (i := 93) rfl)
theorem mw_95 : (Jvm.Cond.laysFinal "LineSorter$Key" "LineSorter$Key" "lastCharacter" "I") ∈ lw_tbl := mq_1 (List.mem_of_getElem? (i := 95) rfl)
theorem mw_97 : (Jvm.Cond.laysFinal "LineSorter$Key" "LineSorter$Key" "ownFlags" "I") ∈ lw_tbl := mq_1 (List.mem_of_getElem? (i := 97) rfl)
theorem mw_101 : (Jvm.Cond.classLink "LineSorter$Order" (32 : Nat) "LineSorter$Numeral") ∈ lw_tbl := mq_1 (List.mem_of_getElem? (i := 101) rfl)
theorem mw_102 : (Jvm.Cond.instantiable "LineSorter$Numeral" (5 : Nat)) ∈ lw_tbl := mq_1 (List.mem_of_getElem? (i := 102) rfl)
theorem mw_103 : (Jvm.Cond.methodLinkNest "LineSorter$Order" (34 : Nat) ({ cls := "LineSorter$Numeral", name := "<init>", desc := "()V" } : Jvm.MethodName) "LineSorter") ∈ lw_tbl := mq_1 (List.mem_of_getElem? (i := 103) rfl)
theorem mw_104 : (Jvm.Cond.instanceMethod ({ cls := "LineSorter$Numeral", name := "<init>", desc := "()V" } : Jvm.MethodName)) ∈ lw_tbl := mq_1 (List.mem_of_getElem? (i := 104) rfl)
theorem mw_105 : (Jvm.Cond.code ({ cls := "LineSorter$Numeral", name := "<init>", desc := "()V" } : Jvm.MethodName) prog_4_method_1_code (1 : Nat) (Option.none : Option Jvm.ClassFile.FieldType)) ∈ lw_tbl := mq_1 (List.mem_of_getElem? (i := 105) rfl)
theorem mw_106 : (Jvm.Cond.methodLink "LineSorter$Numeral" (1 : Nat) ({ cls := "java/lang/Object", name := "<init>", desc := "()V" } : Jvm.MethodName)) ∈ lw_tbl := mq_1 (List.mem_of_getElem? (i := 106) rfl)
theorem mw_107 : (Jvm.Cond.fieldLink "LineSorter$Numeral" (36 : Nat) "LineSorter$Numeral" "sign" "I") ∈ lw_tbl := mq_1 (List.mem_of_getElem? (i := 107) rfl)
theorem mw_108 : (Jvm.Cond.fieldLinkNest "LineSorter$Order" (110 : Nat) "LineSorter$Numeral" "sign" "I" "LineSorter") ∈ lw_tbl := mq_1 (List.mem_of_getElem? (i := 108) rfl)
theorem mw_109 : (Jvm.Cond.fieldLink "LineSorter$Numeral" (17 : Nat) "LineSorter$Numeral" "whole" "I") ∈ lw_tbl := mq_1 (List.mem_of_getElem? (i := 109) rfl)
theorem mw_110 : (Jvm.Cond.fieldLinkNest "LineSorter$Order" (121 : Nat) "LineSorter$Numeral" "whole" "I" "LineSorter") ∈ lw_tbl := mq_1 (List.mem_of_getElem? (i := 110) rfl)
theorem mw_111 : (Jvm.Cond.fieldLink "LineSorter$Numeral" (27 : Nat) "LineSorter$Numeral" "wholeStop" "I") ∈ lw_tbl := mq_1 (List.mem_of_getElem? (i := 111) rfl)
theorem mw_112 : (Jvm.Cond.fieldLinkNest "LineSorter$Order" (124 : Nat) "LineSorter$Numeral" "wholeStop" "I" "LineSorter") ∈ lw_tbl := mq_1 (List.mem_of_getElem? (i := 112) rfl)
theorem mw_113 : (Jvm.Cond.fieldLink "LineSorter$Numeral" (30 : Nat) "LineSorter$Numeral" "fraction" "I") ∈ lw_tbl := mq_1 (List.mem_of_getElem? (i := 113) rfl)
theorem mw_114 : (Jvm.Cond.fieldLinkNest "LineSorter$Order" (127 : Nat) "LineSorter$Numeral" "fraction" "I" "LineSorter") ∈ lw_tbl := mq_1 (List.mem_of_getElem? (i := 114) rfl)
theorem mw_115 : (Jvm.Cond.fieldLink "LineSorter$Numeral" (33 : Nat) "LineSorter$Numeral" "fractionStop" "I") ∈ lw_tbl := mq_1 (List.mem_of_getElem? (i := 115) rfl)
theorem mw_116 : (Jvm.Cond.fieldLinkNest "LineSorter$Order" (130 : Nat) "LineSorter$Numeral" "fractionStop" "I" "LineSorter") ∈ lw_tbl := mq_1 (List.mem_of_getElem? (i := 116) rfl)
theorem mw_117 : (Jvm.Cond.lays "LineSorter$Numeral" "LineSorter$Numeral" "sign" "I") ∈ lw_tbl := mq_1 (List.mem_of_getElem? (i := 117) rfl)
theorem mw_119 : (Jvm.Cond.lays "LineSorter$Numeral" "LineSorter$Numeral" "whole" "I") ∈ lw_tbl := mq_1 (List.mem_of_getElem? (i := 119) rfl)
theorem mw_121 : (Jvm.Cond.lays "LineSorter$Numeral" "LineSorter$Numeral" "wholeStop" "I") ∈ lw_tbl := mq_1 (List.mem_of_getElem? (i := 121) rfl)
theorem mw_123 : (Jvm.Cond.lays "LineSorter$Numeral" "LineSorter$Numeral" "fraction" "I") ∈ lw_tbl := mq_1 (List.mem_of_getElem? (i := 123) rfl)
theorem mw_125 : (Jvm.Cond.lays "LineSorter$Numeral" "LineSorter$Numeral" "fractionStop" "I") ∈ lw_tbl := mq_1 (List.mem_of_getElem? (i := 125) rfl)
theorem mw_128 : (Jvm.Cond.fieldLink "LineSorter$Order" (9 : Nat) "LineSorter$Order" "text" "LLineSorter$Text;") ∈ lw_tbl := mq_1 (List.mem_of_getElem? (i := 128) rfl)
theorem mw_129 : (Jvm.Cond.fieldLink "LineSorter$Order" (15 : Nat) "LineSorter$Order" "places" "LLineSorter$Places;") ∈ lw_tbl := mq_1 (List.mem_of_getElem? (i := 129) rfl)
theorem mw_130 : (Jvm.Cond.fieldLink "LineSorter$Order" (28 : Nat) "LineSorter$Order" "keys" "[LLineSorter$Key;") ∈ lw_tbl := mq_1 (List.mem_of_getElem? (i := 130) rfl)
theorem mw_131 : (Jvm.Cond.fieldLink "LineSorter$Order" (24 : Nat) "LineSorter$Order" "wholeLine" "LLineSorter$Key;") ∈ lw_tbl := mq_1 (List.mem_of_getElem? (i := 131) rfl)
theorem mw_132 : (Jvm.Cond.fieldLink "LineSorter$Order" (35 : Nat) "LineSorter$Order" "left" "LLineSorter$Numeral;") ∈ lw_tbl := mq_1 (List.mem_of_getElem? (i := 132) rfl)
theorem mw_133 : (Jvm.Cond.fieldLink "LineSorter$Order" (39 : Nat) "LineSorter$Order" "right" "LLineSorter$Numeral;") ∈ lw_tbl := mq_1 (List.mem_of_getElem? (i := 133) rfl)
theorem mw_134 : (Jvm.Cond.fieldLink "LineSorter$Order" (42 : Nat) "LineSorter$Order" "keyCount" "I") ∈ lw_tbl := mq_1 (List.mem_of_getElem? (i := 134) rfl)
theorem mw_135 : (Jvm.Cond.fieldLinkNest "LineSorter" (118 : Nat) "LineSorter$Order" "keyCount" "I" "LineSorter") ∈ lw_tbl := mq_1 (List.mem_of_getElem? (i := 135) rfl)
theorem mw_136 : (Jvm.Cond.fieldLink "LineSorter$Order" (46 : Nat) "LineSorter$Order" "allsFlags" "I") ∈ lw_tbl := mq_1 (List.mem_of_getElem? (i := 136) rfl)
theorem mw_137 : (Jvm.Cond.fieldLinkNest "LineSorter" (101 : Nat) "LineSorter$Order" "allsFlags" "I" "LineSorter") ∈ lw_tbl := mq_1 (List.mem_of_getElem? (i := 137) rfl)
theorem mw_138 : (Jvm.Cond.fieldLink "LineSorter$Order" (49 : Nat) "LineSorter$Order" "isStable" "Z") ∈ lw_tbl := mq_1 (List.mem_of_getElem? (i := 138) rfl)
theorem mw_139 : (Jvm.Cond.fieldLinkNest "LineSorter" (104 : Nat) "LineSorter$Order" "isStable" "Z" "LineSorter") ∈ lw_tbl := mq_1 (List.mem_of_getElem? (i := 139) rfl)
theorem mw_140 : (Jvm.Cond.fieldLink "LineSorter$Order" (53 : Nat) "LineSorter$Order" "isOnce" "Z") ∈ lw_tbl := mq_1 (List.mem_of_getElem? (i := 140) rfl)
theorem mw_141 : (Jvm.Cond.fieldLinkNest "LineSorter" (108 : Nat) "LineSorter$Order" "isOnce" "Z" "LineSorter") ∈ lw_tbl := mq_1 (List.mem_of_getElem? (i := 141) rfl)
theorem mw_142 : (Jvm.Cond.laysFinal "LineSorter$Order" "LineSorter$Order" "text" "LLineSorter$Text;") ∈ lw_tbl := mq_1 (List.mem_of_getElem? (i := 142) rfl)
theorem mw_144 : (Jvm.Cond.laysFinal "LineSorter$Order" "LineSorter$Order" "places" "LLineSorter$Places;") ∈ lw_tbl := mq_1 (List.mem_of_getElem? (i := 144) rfl)
theorem mw_146 : (Jvm.Cond.laysFinal "LineSorter$Order" "LineSorter$Order" "keys" "[LLineSorter$Key;") ∈ lw_tbl := mq_1 (List.mem_of_getElem? (i := 146) rfl)
theorem mw_148 : (Jvm.Cond.laysFinal "LineSorter$Order" "LineSorter$Order" "wholeLine" "LLineSorter$Key;") ∈ lw_tbl := mq_1 (List.mem_of_getElem? (i := 148) rfl)
theorem mw_150 : (Jvm.Cond.laysFinal "LineSorter$Order" "LineSorter$Order" "left" "LLineSorter$Numeral;") ∈ lw_tbl := mq_1 (List.mem_of_getElem? (i := 150) rfl)
theorem mw_152 : (Jvm.Cond.laysFinal "LineSorter$Order" "LineSorter$Order" "right" "LLineSorter$Numeral;") ∈ lw_tbl := mq_1 (List.mem_of_getElem? (i := 152) rfl)
theorem mw_154 : (Jvm.Cond.lays "LineSorter$Order" "LineSorter$Order" "keyCount" "I") ∈ lw_tbl := mq_1 (List.mem_of_getElem? (i := 154) rfl)
theorem mw_156 : (Jvm.Cond.lays "LineSorter$Order" "LineSorter$Order" "allsFlags" "I") ∈ lw_tbl := mq_1 (List.mem_of_getElem? (i := 156) rfl)
theorem mw_158 : (Jvm.Cond.lays "LineSorter$Order" "LineSorter$Order" "isStable" "Z") ∈ lw_tbl := mq_1 (List.mem_of_getElem? (i := 158) rfl)
theorem mw_160 : (Jvm.Cond.lays "LineSorter$Order" "LineSorter$Order" "isOnce" "Z") ∈ lw_tbl := mq_1 (List.mem_of_getElem? (i := 160) rfl)
theorem mw_163 : (Jvm.Cond.classLink "LineSorter" (34 : Nat) "LineSorter$Ranking") ∈ lw_tbl := mq_1 (List.mem_of_getElem? (i := 163) rfl)
theorem mw_164 : (Jvm.Cond.instantiable "LineSorter$Ranking" (3 : Nat)) ∈ lw_tbl := mq_1 (List.mem_of_getElem? (i := 164) rfl)
theorem mw_165 : (Jvm.Cond.methodLink "LineSorter" (36 : Nat) ({ cls := "LineSorter$Ranking", name := "<init>", desc := "(LLineSorter$Order;)V" } : Jvm.MethodName)) ∈ lw_tbl := mq_1 (List.mem_of_getElem? (i := 165) rfl)
theorem mw_166 : (Jvm.Cond.instanceMethod ({ cls := "LineSorter$Ranking", name := "<init>", desc := "(LLineSorter$Order;)V" } : Jvm.MethodName)) ∈ lw_tbl := mq_1 (List.mem_of_getElem? (i := 166) rfl)
theorem mw_167 : (Jvm.Cond.code ({ cls := "LineSorter$Ranking", name := "<init>", desc := "(LLineSorter$Order;)V" } : Jvm.MethodName) prog_7_method_1_code (2 : Nat) (Option.none : Option Jvm.ClassFile.FieldType)) ∈ lw_tbl := mq_1 (List.mem_of_getElem? (i := 167) rfl)
theorem mw_168 : (Jvm.Cond.methodLink "LineSorter$Ranking" (3 : Nat) ({ cls := "java/lang/Object", name := "<init>", desc := "()V" } : Jvm.MethodName)) ∈ lw_tbl := mq_1 (List.mem_of_getElem? (i := 168) rfl)
theorem mw_169 : (Jvm.Cond.fieldLink "LineSorter$Ranking" (9 : Nat) "LineSorter$Ranking" "order" "LLineSorter$Order;") ∈ lw_tbl := mq_1 (List.mem_of_getElem? (i := 169) rfl)
theorem mw_170 : (Jvm.Cond.fieldLink "LineSorter$Ranking" (15 : Nat) "LineSorter$Ranking" "ranks" "[I") ∈ lw_tbl := mq_1 (List.mem_of_getElem? (i := 170) rfl)
theorem mw_171 : (Jvm.Cond.fieldLink "LineSorter$Ranking" (19 : Nat) "LineSorter$Ranking" "ranked" "[I") ∈ lw_tbl := mq_1 (List.mem_of_getElem? (i := 171) rfl)
theorem mw_172 : (Jvm.Cond.laysFinal "LineSorter$Ranking" "LineSorter$Ranking" "order" "LLineSorter$Order;") ∈ lw_tbl := mq_1 (List.mem_of_getElem? (i := 172) rfl)
theorem mw_174 : (Jvm.Cond.laysFinal "LineSorter$Ranking" "LineSorter$Ranking" "ranks" "[I") ∈ lw_tbl := mq_1 (List.mem_of_getElem? (i := 174) rfl)
theorem mw_176 : (Jvm.Cond.laysFinal "LineSorter$Ranking" "LineSorter$Ranking" "ranked" "[I") ∈ lw_tbl := mq_1 (List.mem_of_getElem? (i := 176) rfl)
theorem mw_179 : (Jvm.Cond.classLink "LineSorter" (43 : Nat) "LineSorter$Heap") ∈ lw_tbl := mq_1 (List.mem_of_getElem? (i := 179) rfl)
theorem mw_180 : (Jvm.Cond.instantiable "LineSorter$Heap" (2 : Nat)) ∈ lw_tbl := mq_1 (List.mem_of_getElem? (i := 180) rfl)
theorem mw_181 : (Jvm.Cond.methodLink "LineSorter" (45 : Nat) ({ cls := "LineSorter$Heap", name := "<init>", desc := "()V" } : Jvm.MethodName)) ∈ lw_tbl := mq_1 (List.mem_of_getElem? (i := 181) rfl)
theorem mw_182 : (Jvm.Cond.instanceMethod ({ cls := "LineSorter$Heap", name := "<init>", desc := "()V" } : Jvm.MethodName)) ∈ lw_tbl := mq_1 (List.mem_of_getElem? (i := 182) rfl)
theorem mw_183 : (Jvm.Cond.code ({ cls := "LineSorter$Heap", name := "<init>", desc := "()V" } : Jvm.MethodName) prog_2_method_1_code (1 : Nat) (Option.none : Option Jvm.ClassFile.FieldType)) ∈ lw_tbl := mq_1 (List.mem_of_getElem? (i := 183) rfl)
theorem mw_184 : (Jvm.Cond.methodLink "LineSorter$Heap" (3 : Nat) ({ cls := "java/lang/Object", name := "<init>", desc := "()V" } : Jvm.MethodName)) ∈ lw_tbl := mq_1 (List.mem_of_getElem? (i := 184) rfl)
theorem mw_185 : (Jvm.Cond.fieldLink "LineSorter$Heap" (9 : Nat) "LineSorter$Heap" "numbers" "[I") ∈ lw_tbl := mq_1 (List.mem_of_getElem? (i := 185) rfl)
theorem mw_186 : (Jvm.Cond.fieldLink "LineSorter$Heap" (15 : Nat) "LineSorter$Heap" "count" "I") ∈ lw_tbl := mq_1 (List.mem_of_getElem? (i := 186) rfl)
theorem mw_187 : (Jvm.Cond.laysFinal "LineSorter$Heap" "LineSorter$Heap" "numbers" "[I") ∈ lw_tbl := mq_1 (List.mem_of_getElem? (i := 187) rfl)
theorem mw_189 : (Jvm.Cond.lays "LineSorter$Heap" "LineSorter$Heap" "count" "I") ∈ lw_tbl := mq_1 (List.mem_of_getElem? (i := 189) rfl)
theorem mw_192 : (Jvm.Cond.classLink "LineSorter" (50 : Nat) "LineSorter$Runs") ∈ lw_tbl := mq_1 (List.mem_of_getElem? (i := 192) rfl)
theorem mw_193 : (Jvm.Cond.instantiable "LineSorter$Runs" (8 : Nat)) ∈ lw_tbl := mq_1 (List.mem_of_getElem? (i := 193) rfl)
theorem mw_194 : (Jvm.Cond.methodLink "LineSorter" (52 : Nat) ({ cls := "LineSorter$Runs", name := "<init>", desc := "(LLineSorter$Ranking;LLineSorter$Heap;)V" } : Jvm.MethodName)) ∈ lw_tbl := mq_1 (List.mem_of_getElem? (i := 194) rfl)
theorem mw_195 : (Jvm.Cond.instanceMethod ({ cls := "LineSorter$Runs", name := "<init>", desc := "(LLineSorter$Ranking;LLineSorter$Heap;)V" } : Jvm.MethodName)) ∈ lw_tbl := mq_1 (List.mem_of_getElem? (i := 195) rfl)
theorem mw_196 : (Jvm.Cond.code ({ cls := "LineSorter$Runs", name := "<init>", desc := "(LLineSorter$Ranking;LLineSorter$Heap;)V" } : Jvm.MethodName) prog_8_method_1_code (3 : Nat) (Option.none : Option Jvm.ClassFile.FieldType)) ∈ lw_tbl := mq_1 (List.mem_of_getElem? (i := 196) rfl)
theorem mw_197 : (Jvm.Cond.methodLink "LineSorter$Runs" (3 : Nat) ({ cls := "java/lang/Object", name := "<init>", desc := "()V" } : Jvm.MethodName)) ∈ lw_tbl := mq_1 (List.mem_of_getElem? (i := 197) rfl)
theorem mw_198 : (Jvm.Cond.fieldLink "LineSorter$Runs" (9 : Nat) "LineSorter$Runs" "ranking" "LLineSorter$Ranking;") ∈ lw_tbl := mq_1 (List.mem_of_getElem? (i := 198) rfl)
theorem mw_199 : (Jvm.Cond.fieldLink "LineSorter$Runs" (15 : Nat) "LineSorter$Runs" "heap" "LLineSorter$Heap;") ∈ lw_tbl := mq_1 (List.mem_of_getElem? (i := 199) rfl)
theorem mw_200 : (Jvm.Cond.fieldLink "LineSorter$Runs" (19 : Nat) "LineSorter$Runs" "lengths" "[I") ∈ lw_tbl := mq_1 (List.mem_of_getElem? (i := 200) rfl)
theorem mw_201 : (Jvm.Cond.fieldLinkNest "LineSorter" (225 : Nat) "LineSorter$Runs" "lengths" "[I" "LineSorter") ∈ lw_tbl := mq_1 (List.mem_of_getElem? (i := 201) rfl)
theorem mw_202 : (Jvm.Cond.fieldLink "LineSorter$Runs" (23 : Nat) "LineSorter$Runs" "queue" "[I") ∈ lw_tbl := mq_1 (List.mem_of_getElem? (i := 202) rfl)
theorem mw_203 : (Jvm.Cond.fieldLink "LineSorter$Runs" (26 : Nat) "LineSorter$Runs" "runCount" "I") ∈ lw_tbl := mq_1 (List.mem_of_getElem? (i := 203) rfl)
theorem mw_204 : (Jvm.Cond.fieldLinkNest "LineSorter" (222 : Nat) "LineSorter$Runs" "runCount" "I" "LineSorter") ∈ lw_tbl := mq_1 (List.mem_of_getElem? (i := 204) rfl)
theorem mw_205 : (Jvm.Cond.fieldLink "LineSorter$Runs" (30 : Nat) "LineSorter$Runs" "mergeCount" "I") ∈ lw_tbl := mq_1 (List.mem_of_getElem? (i := 205) rfl)
theorem mw_206 : (Jvm.Cond.fieldLinkNest "LineSorter" (228 : Nat) "LineSorter$Runs" "mergeCount" "I" "LineSorter") ∈ lw_tbl := mq_1 (List.mem_of_getElem? (i := 206) rfl)
theorem mw_207 : (Jvm.Cond.fieldLink "LineSorter$Runs" (33 : Nat) "LineSorter$Runs" "linesMoved" "I") ∈ lw_tbl := mq_1 (List.mem_of_getElem? (i := 207) rfl)
theorem mw_208 : (Jvm.Cond.fieldLinkNest "LineSorter" (231 : Nat) "LineSorter$Runs" "linesMoved" "I" "LineSorter") ∈ lw_tbl := mq_1 (List.mem_of_getElem? (i := 208) rfl)
theorem mw_209 : (Jvm.Cond.fieldLink "LineSorter$Runs" (36 : Nat) "LineSorter$Runs" "linesDropped" "I") ∈ lw_tbl := mq_1 (List.mem_of_getElem? (i := 209) rfl)
theorem mw_210 : (Jvm.Cond.fieldLinkNest "LineSorter" (196 : Nat) "LineSorter$Runs" "linesDropped" "I" "LineSorter") ∈ lw_tbl := mq_1 (List.mem_of_getElem? (i := 210) rfl)
theorem mw_211 : (Jvm.Cond.laysFinal "LineSorter$Runs" "LineSorter$Runs" "ranking" "LLineSorter$Ranking;") ∈ lw_tbl := mq_1 (List.mem_of_getElem? (i := 211) rfl)
theorem mw_213 : (Jvm.Cond.laysFinal "LineSorter$Runs" "LineSorter$Runs" "heap" "LLineSorter$Heap;") ∈ lw_tbl := mq_1 (List.mem_of_getElem? (i := 213) rfl)
theorem mw_215 : (Jvm.Cond.laysFinal "LineSorter$Runs" "LineSorter$Runs" "lengths" "[I") ∈ lw_tbl := mq_1 (List.mem_of_getElem? (i := 215) rfl)
theorem mw_217 : (Jvm.Cond.laysFinal "LineSorter$Runs" "LineSorter$Runs" "queue" "[I") ∈ lw_tbl := mq_1 (List.mem_of_getElem? (i := 217) rfl)
theorem mw_219 : (Jvm.Cond.lays "LineSorter$Runs" "LineSorter$Runs" "runCount" "I") ∈ lw_tbl := mq_1 (List.mem_of_getElem? (i := 219) rfl)
theorem mw_221 : (Jvm.Cond.lays "LineSorter$Runs" "LineSorter$Runs" "mergeCount" "I") ∈ lw_tbl := mq_1 (List.mem_of_getElem? (i := 221) rfl)
theorem mw_223 : (Jvm.Cond.lays "LineSorter$Runs" "LineSorter$Runs" "linesMoved" "I") ∈ lw_tbl := mq_1 (List.mem_of_getElem? (i := 223) rfl)
theorem mw_225 : (Jvm.Cond.lays "LineSorter$Runs" "LineSorter$Runs" "linesDropped" "I") ∈ lw_tbl := mq_1 (List.mem_of_getElem? (i := 225) rfl)
theorem mw_228 : (Jvm.Cond.fieldLink "LineSorter" (10 : Nat) "LineSorter" "text" "LLineSorter$Text;") ∈ lw_tbl := mq_1 (List.mem_of_getElem? (i := 228) rfl)
theorem mw_229 : (Jvm.Cond.fieldLink "LineSorter" (21 : Nat) "LineSorter" "places" "LLineSorter$Places;") ∈ lw_tbl := mq_1 (List.mem_of_getElem? (i := 229) rfl)
theorem mw_230 : (Jvm.Cond.fieldLink "LineSorter" (30 : Nat) "LineSorter" "order" "LLineSorter$Order;") ∈ lw_tbl := mq_1 (List.mem_of_getElem? (i := 230) rfl)
theorem mw_231 : (Jvm.Cond.fieldLink "LineSorter" (39 : Nat) "LineSorter" "ranking" "LLineSorter$Ranking;") ∈ lw_tbl := mq_1 (List.mem_of_getElem? (i := 231) rfl)
theorem mw_232 : (Jvm.Cond.fieldLink "LineSorter" (46 : Nat) "LineSorter" "heap" "LLineSorter$Heap;") ∈ lw_tbl := mq_1 (List.mem_of_getElem? (i := 232) rfl)
theorem mw_233 : (Jvm.Cond.fieldLink "LineSorter" (55 : Nat) "LineSorter" "runs" "LLineSorter$Runs;") ∈ lw_tbl := mq_1 (List.mem_of_getElem? (i := 233) rfl)
theorem mw_234 : (Jvm.Cond.fieldLink "LineSorter" (59 : Nat) "LineSorter" "resultLines" "[I") ∈ lw_tbl := mq_1 (List.mem_of_getElem? (i := 234) rfl)
theorem mw_235 : (Jvm.Cond.fieldLink "LineSorter" (63 : Nat) "LineSorter" "resultCount" "I") ∈ lw_tbl := mq_1 (List.mem_of_getElem? (i := 235) rfl)
theorem mw_236 : (Jvm.Cond.fieldLink "LineSorter" (67 : Nat) "LineSorter" "linesInMemory" "I") ∈ lw_tbl := mq_1 (List.mem_of_getElem? (i := 236) rfl)
theorem mw_237 : (Jvm.Cond.fieldLink "LineSorter" (70 : Nat) "LineSorter" "runsAtATime" "I") ∈ lw_tbl := mq_1 (List.mem_of_getElem? (i := 237) rfl)
theorem mw_238 : (Jvm.Cond.laysFinal "LineSorter" "LineSorter" "text" "LLineSorter$Text;") ∈ lw_tbl := mq_1 (List.mem_of_getElem? (i := 238) rfl)
theorem mw_240 : (Jvm.Cond.laysFinal "LineSorter" "LineSorter" "places" "LLineSorter$Places;") ∈ lw_tbl := mq_2 (List.mem_of_getElem? (i := 0) rfl)
theorem mw_242 : (Jvm.Cond.laysFinal "LineSorter" "LineSorter" "order" "LLineSorter$Order;") ∈ lw_tbl := mq_2 (List.mem_of_getElem? (i := 2) rfl)
theorem mw_244 : (Jvm.Cond.laysFinal "LineSorter" "LineSorter" "ranking" "LLineSorter$Ranking;") ∈ lw_tbl := mq_2 (List.mem_of_getElem? (i := 4) rfl)
theorem mw_246 : (Jvm.Cond.laysFinal "LineSorter" "LineSorter" "heap" "LLineSorter$Heap;") ∈ lw_tbl := mq_2 (List.mem_of_getElem? (i := 6) rfl)
theorem mw_248 : (Jvm.Cond.laysFinal "LineSorter" "LineSorter" "runs" "LLineSorter$Runs;") ∈ lw_tbl := mq_2 (List.mem_of_getElem? (i := 8) rfl)
theorem mw_250 : (Jvm.Cond.laysFinal "LineSorter" "LineSorter" "resultLines" "[I") ∈ lw_tbl := mq_2 (List.mem_of_getElem? (i := 10) rfl)
theorem mw_252 : (Jvm.Cond.lays "LineSorter" "LineSorter" "resultCount" "I") ∈ lw_tbl := mq_2 (List.mem_of_getElem? (i := 12) rfl)
theorem mw_254 : (Jvm.Cond.lays "LineSorter" "LineSorter" "linesInMemory" "I") ∈ lw_tbl := mq_2 (List.mem_of_getElem? (i := 14) rfl)
theorem mw_256 : (Jvm.Cond.lays "LineSorter" "LineSorter" "runsAtATime" "I") ∈ lw_tbl := mq_2 (List.mem_of_getElem? (i := 16) rfl)
theorem mw_259 : (Jvm.Cond.methodLink "LineSorterLaw" (85 : Nat) ({ cls := "LineSorter", name := "keyless", desc := "()I" } : Jvm.MethodName)) ∈ lw_tbl := mq_2 (List.mem_of_getElem? (i := 19) rfl)
theorem mw_260 : (Jvm.Cond.instanceMethod ({ cls := "LineSorter", name := "keyless", desc := "()I" } : Jvm.MethodName)) ∈ lw_tbl := mq_2 (List.mem_of_getElem? (i := 20) rfl)
theorem mw_261 : (Jvm.Cond.selects "LineSorter" ({ cls := "LineSorter", name := "keyless", desc := "()I" } : Jvm.MethodName) ({ cls := "LineSorter", name := "keyless", desc := "()I" } : Jvm.MethodName)) ∈ lw_tbl := mq_2 (List.mem_of_getElem? (i := 21) rfl)
theorem mw_262 : (Jvm.Cond.code ({ cls := "LineSorter", name := "keyless", desc := "()I" } : Jvm.MethodName) prog_1_method_7_code (2 : Nat) (Option.some Jvm.ClassFile.FieldType.int)) ∈ lw_tbl := mq_2 (List.mem_of_getElem? (i := 22) rfl)
theorem mw_263 : (Jvm.Cond.methodLink "LineSorterLaw" (93 : Nat) ({ cls := "LineSorter", name := "lines", desc := "()I" } : Jvm.MethodName)) ∈ lw_tbl := mq_2 (List.mem_of_getElem? (i := 23) rfl)
theorem mw_264 : (Jvm.Cond.instanceMethod ({ cls := "LineSorter", name := "lines", desc := "()I" } : Jvm.MethodName)) ∈ lw_tbl := mq_2 (List.mem_of_getElem? (i := 24) rfl)
theorem mw_265 : (Jvm.Cond.selects "LineSorter" ({ cls := "LineSorter", name := "lines", desc := "()I" } : Jvm.MethodName) ({ cls := "LineSorter", name := "lines", desc := "()I" } : Jvm.MethodName)) ∈ lw_tbl := mq_2 (List.mem_of_getElem? (i := 25) rfl)
theorem mw_266 : (Jvm.Cond.code ({ cls := "LineSorter", name := "lines", desc := "()I" } : Jvm.MethodName) prog_1_method_9_code (1 : Nat) (Option.some Jvm.ClassFile.FieldType.int)) ∈ lw_tbl := mq_2 (List.mem_of_getElem? (i := 26) rfl)
theorem mw_267 : (Jvm.Cond.methodLink "LineSorter" (137 : Nat) ({ cls := "LineSorter$Text", name := "lineCount", desc := "()I" } : Jvm.MethodName)) ∈ lw_tbl := mq_2 (List.mem_of_getElem? (i := 27) rfl)
theorem mw_268 : (Jvm.Cond.instanceMethod ({ cls := "LineSorter$Text", name := "lineCount", desc := "()I" } : Jvm.MethodName)) ∈ lw_tbl := mq_2 (List.mem_of_getElem? (i := 28) rfl)
theorem mw_269 : (Jvm.Cond.selects "LineSorter$Text" ({ cls := "LineSorter$Text", name := "lineCount", desc := "()I" } : Jvm.MethodName) ({ cls := "LineSorter$Text", name := "lineCount", desc := "()I" } : Jvm.MethodName)) ∈ lw_tbl := mq_2 (List.mem_of_getElem? (i := 29) rfl)
theorem mw_270 : (Jvm.Cond.code ({ cls := "LineSorter$Text", name := "lineCount", desc := "()I" } : Jvm.MethodName) prog_9_method_5_code (1 : Nat) (Option.some Jvm.ClassFile.FieldType.int)) ∈ lw_tbl := mq_2 (List.mem_of_getElem? (i := 30) rfl)
theorem mw_271 : (Jvm.Cond.methodLink "LineSorter$Text" (39 : Nat) ({ cls := "LineSorter$Text", name := "startOf", desc := "(I)I" } : Jvm.MethodName)) ∈ lw_tbl := mq_2 (List.mem_of_getElem? (i := 31) rfl)
theorem mw_272 : (Jvm.Cond.instanceMethod ({ cls := "LineSorter$Text", name := "startOf", desc := "(I)I" } : Jvm.MethodName)) ∈ lw_tbl := mq_2 (List.mem_of_getElem? (i := 32) rfl)
theorem mw_273 : (Jvm.Cond.selects "LineSorter$Text" ({ cls := "LineSorter$Text", name := "startOf", desc := "(I)I" } : Jvm.MethodName) ({ cls := "LineSorter$Text", name := "startOf", desc := "(I)I" } : Jvm.MethodName)) ∈ lw_tbl := mq_2 (List.mem_of_getElem? (i := 33) rfl)
theorem mw_274 : (Jvm.Cond.code ({ cls := "LineSorter$Text", name := "startOf", desc := "(I)I" } : Jvm.MethodName) prog_9_method_6_code (2 : Nat) (Option.some Jvm.ClassFile.FieldType.int)) ∈ lw_tbl := mq_2 (List.mem_of_getElem? (i := 34) rfl)
theorem mw_275 : (Jvm.Cond.methodLink "LineSorterLaw" (109 : Nat) ({ cls := "LineSorter", name := "check", desc := "()I" } : Jvm.MethodName)) ∈ lw_tbl := mq_2 (List.mem_of_getElem? (i := 35) rfl)
theorem mw_276 : (Jvm.Cond.instanceMethod ({ cls := "LineSorter", name := "check", desc := "()I" } : Jvm.MethodName)) ∈ lw_tbl := mq_2 (List.mem_of_getElem? (i := 36) rfl)
theorem mw_277 : (Jvm.Cond.selects "LineSorter" ({ cls := "LineSorter", name := "check", desc := "()I" } : Jvm.MethodName) ({ cls := "LineSorter", name := "check", desc := "()I" } : Jvm.MethodName)) ∈ lw_tbl := mq_2 (List.mem_of_getElem? (i := 37) rfl)
theorem mw_278 : (Jvm.Cond.code ({ cls := "LineSorter", name := "check", desc := "()I" } : Jvm.MethodName) prog_1_method_13_code (4 : Nat) (Option.some Jvm.ClassFile.FieldType.int)) ∈ lw_tbl := mq_2 (List.mem_of_getElem? (i := 38) rfl)
theorem mw_279 : (Jvm.Cond.methodLink "LineSorter" (199 : Nat) ({ cls := "LineSorter$Order", name := "comparedNumbersAside", desc := "(II)I" } : Jvm.MethodName)) ∈ lw_tbl := mq_2 (List.mem_of_getElem? (i := 39) rfl)
theorem mw_280 : (Jvm.Cond.instanceMethod ({ cls := "LineSorter$Order", name := "comparedNumbersAside", desc := "(II)I" } : Jvm.MethodName)) ∈ lw_tbl := mq_2 (List.mem_of_getElem? (i := 40) rfl)
theorem mw_281 : (Jvm.Cond.selects "LineSorter$Order" ({ cls := "LineSorter$Order", name := "comparedNumbersAside", desc := "(II)I" } : Jvm.MethodName) ({ cls := "LineSorter$Order", name := "comparedNumbersAside", desc := "(II)I" } : Jvm.MethodName)) ∈ lw_tbl := mq_2 (List.mem_of_getElem? (i := 41) rfl)
theorem mw_282 : (Jvm.Cond.code ({ cls := "LineSorter$Order", name := "comparedNumbersAside", desc := "(II)I" } : Jvm.MethodName) prog_5_method_6_code (5 : Nat) (Option.some Jvm.ClassFile.FieldType.int)) ∈ lw_tbl := mq_2 (List.mem_of_getElem? (i := 42) rfl)
theorem mw_283 : (Jvm.Cond.methodLink "LineSorter$Order" (65 : Nat) ({ cls := "LineSorter$Order", name := "comparedByKeys", desc := "(II)I" } : Jvm.MethodName)) ∈ lw_tbl := mq_2 (List.mem_of_getElem? (i := 43) rfl)
theorem mw_284 : (Jvm.Cond.instanceMethod ({ cls := "LineSorter$Order", name := "comparedByKeys", desc := "(II)I" } : Jvm.MethodName)) ∈ lw_tbl := mq_2 (List.mem_of_getElem? (i := 44) rfl)
theorem mw_285 : (Jvm.Cond.selects "LineSorter$Order" ({ cls := "LineSorter$Order", name := "comparedByKeys", desc := "(II)I" } : Jvm.MethodName) ({ cls := "LineSorter$Order", name := "comparedByKeys", desc := "(II)I" } : Jvm.MethodName)) ∈ lw_tbl := mq_2 (List.mem_of_getElem? (i := 45) rfl)
theorem mw_286 : (Jvm.Cond.code ({ cls := "LineSorter$Order", name := "comparedByKeys", desc := "(II)I" } : Jvm.MethodName) prog_5_method_7_code (12 : Nat) (Option.some Jvm.ClassFile.FieldType.int)) ∈ lw_tbl := mq_2 (List.mem_of_getElem? (i := 46) rfl)
theorem mw_287 : (Jvm.Cond.methodLink "LineSorter$Order" (81 : Nat) ({ cls := "LineSorter$Order", name := "keysInUse", desc := "()I" } : Jvm.MethodName)) ∈ lw_tbl := mq_2 (List.mem_of_getElem? (i := 47) rfl)
theorem mw_288 : (Jvm.Cond.instanceMethod ({ cls := "LineSorter$Order", name := "keysInUse", desc := "()I" } : Jvm.MethodName)) ∈ lw_tbl := mq_2 (List.mem_of_getElem? (i := 48) rfl)
theorem mw_289 : (Jvm.Cond.selects "LineSorter$Order" ({ cls := "LineSorter$Order", name := "keysInUse", desc := "()I" } : Jvm.MethodName) ({ cls := "LineSorter$Order", name := "keysInUse", desc := "()I" } : Jvm.MethodName)) ∈ lw_tbl := mq_2 (List.mem_of_getElem? (i := 49) rfl)
theorem mw_290 : (Jvm.Cond.code ({ cls := "LineSorter$Order", name := "keysInUse", desc := "()I" } : Jvm.MethodName) prog_5_method_3_code (1 : Nat) (Option.some Jvm.ClassFile.FieldType.int)) ∈ lw_tbl := mq_2 (List.mem_of_getElem? (i := 50) rfl)
theorem mw_291 : (Jvm.Cond.methodLink "LineSorter$Order" (56 : Nat) ({ cls := "java/lang/Math", name := "max", desc := "(II)I" } : Jvm.MethodName)) ∈ lw_tbl := mq_2 (List.mem_of_getElem? (i := 51) rfl)
theorem mw_292 : (Jvm.Cond.static ({ cls := "java/lang/Math", name := "max", desc := "(II)I" } : Jvm.MethodName)) ∈ lw_tbl := mq_2 (List.mem_of_getElem? (i := 52) rfl)
theorem mw_293 : (Jvm.Cond.code ({ cls := "java/lang/Math", name := "max", desc := "(II)I" } : Jvm.MethodName) prog_18_method_65_code (2 : Nat) (Option.some Jvm.ClassFile.FieldType.int)) ∈ lw_tbl := mq_2 (List.mem_of_getElem? (i := 53) rfl)
theorem mw_294 : (Jvm.Cond.methodLink "LineSorter$Order" (85 : Nat) ({ cls := "LineSorter$Order", name := "keyInUse", desc := "(I)LLineSorter$Key;" } : Jvm.MethodName)) ∈ lw_tbl := mq_2 (List.mem_of_getElem? (i := 54) rfl)
theorem mw_295 : (Jvm.Cond.instanceMethod ({ cls := "LineSorter$Order", name := "keyInUse", desc := "(I)LLineSorter$Key;" } : Jvm.MethodName)) ∈ lw_tbl := mq_2 (List.mem_of_getElem? (i := 55) rfl)
theorem mw_296 : (Jvm.Cond.selects "LineSorter$Order" ({ cls := "LineSorter$Order", name := "keyInUse", desc := "(I)LLineSorter$Key;" } : Jvm.MethodName) ({ cls := "LineSorter$Order", name := "keyInUse", desc := "(I)LLineSorter$Key;" } : Jvm.MethodName)) ∈ lw_tbl := mq_2 (List.mem_of_getElem? (i := 56) rfl)
theorem mw_297 : (Jvm.Cond.code ({ cls := "LineSorter$Order", name := "keyInUse", desc := "(I)LLineSorter$Key;" } : Jvm.MethodName) prog_5_method_4_code (2 : Nat) (Option.some (Jvm.ClassFile.FieldType.object "LineSorter$Key"))) ∈ lw_tbl := mq_2 (List.mem_of_getElem? (i := 57) rfl)
theorem mw_298 : (Jvm.Cond.methodLink "LineSorter$Order" (89 : Nat) ({ cls := "LineSorter$Order", name := "flagsOf", desc := "(LLineSorter$Key;)I" } : Jvm.MethodName)) ∈ lw_tbl := mq_2 (List.mem_of_getElem? (i := 58) rfl)
theorem mw_299 : (Jvm.Cond.instanceMethod ({ cls := "LineSorter$Order", name := "flagsOf", desc := "(LLineSorter$Key;)I" } : Jvm.MethodName)) ∈ lw_tbl := mq_2 (List.mem_of_getElem? (i := 59) rfl)
theorem mw_300 : (Jvm.Cond.selects "LineSorter$Order" ({ cls := "LineSorter$Order", name := "flagsOf", desc := "(LLineSorter$Key;)I" } : Jvm.MethodName) ({ cls := "LineSorter$Order", name := "flagsOf", desc := "(LLineSorter$Key;)I" } : Jvm.MethodName)) ∈ lw_tbl := mq_2 (List.mem_of_getElem? (i := 60) rfl)
theorem mw_301 : (Jvm.Cond.code ({ cls := "LineSorter$Order", name := "flagsOf", desc := "(LLineSorter$Key;)I" } : Jvm.MethodName) prog_5_method_5_code (2 : Nat) (Option.some Jvm.ClassFile.FieldType.int)) ∈ lw_tbl := mq_2 (List.mem_of_getElem? (i := 61) rfl)
theorem mw_302 : (Jvm.Cond.methodLink "LineSorter$Order" (93 : Nat) ({ cls := "LineSorter$Places", name := "beginOf", desc := "(LLineSorter$Key;II)I" } : Jvm.MethodName)) ∈ lw_tbl := mq_2 (List.mem_of_getElem? (i := 62) rfl)
theorem mw_303 : (Jvm.Cond.instanceMethod ({ cls := "LineSorter$Places", name := "beginOf", desc := "(LLineSorter$Key;II)I" } : Jvm.MethodName)) ∈ lw_tbl := mq_2 (List.mem_of_getElem? (i := 63) rfl)
theorem mw_304 : (Jvm.Cond.selects "LineSorter$Places" ({ cls := "LineSorter$Places", name := "beginOf", desc := "(LLineSorter$Key;II)I" } : Jvm.MethodName) ({ cls := "LineSorter$Places", name := "beginOf", desc := "(LLineSorter$Key;II)I" } : Jvm.MethodName)) ∈ lw_tbl := mq_2 (List.mem_of_getElem? (i := 64) rfl)
theorem mw_305 : (Jvm.Cond.code ({ cls := "LineSorter$Places", name := "beginOf", desc := "(LLineSorter$Key;II)I" } : Jvm.MethodName) prog_6_method_2_code (6 : Nat) (Option.some Jvm.ClassFile.FieldType.int)) ∈ lw_tbl := mq_2 (List.mem_of_getElem? (i := 65) rfl)
theorem mw_306 : (Jvm.Cond.methodLink "LineSorter$Places" (19 : Nat) ({ cls := "LineSorter$Text", name := "stopOf", desc := "(I)I" } : Jvm.MethodName)) ∈ lw_tbl := mq_2 (List.mem_of_getElem? (i := 66) rfl)
theorem mw_307 : (Jvm.Cond.instanceMethod ({ cls := "LineSorter$Text", name := "stopOf", desc := "(I)I" } : Jvm.MethodName)) ∈ lw_tbl := mq_2 (List.mem_of_getElem? (i := 67) rfl)
theorem mw_308 : (Jvm.Cond.selects "LineSorter$Text" ({ cls := "LineSorter$Text", name := "stopOf", desc := "(I)I" } : Jvm.MethodName) ({ cls := "LineSorter$Text", name := "stopOf", desc := "(I)I" } : Jvm.MethodName)) ∈ lw_tbl := mq_2 (List.mem_of_getElem? (i := 68) rfl)
theorem mw_309 : (Jvm.Cond.code ({ cls := "LineSorter$Text", name := "stopOf", desc := "(I)I" } : Jvm.MethodName) prog_9_method_7_code (2 : Nat) (Option.some Jvm.ClassFile.FieldType.int)) ∈ lw_tbl := mq_2 (List.mem_of_getElem? (i := 69) rfl)
theorem mw_310 : (Jvm.Cond.methodLink "LineSorter$Places" (30 : Nat) ({ cls := "LineSorter$Text", name := "startOf", desc := "(I)I" } : Jvm.MethodName)) ∈ lw_tbl := mq_2 (List.mem_of_getElem? (i := 70) rfl)
theorem mw_311 : (Jvm.Cond.methodLink "LineSorter$Places" (33 : Nat) ({ cls := "LineSorter$Places", name := "fieldStart", desc := "(III)I" } : Jvm.MethodName)) ∈ lw_tbl := mq_2 (List.mem_of_getElem? (i := 71) rfl)
theorem mw_313 : (Jvm.Cond.instanceMethod ({ cls := "LineSorter$Places", name := "fieldStart", desc := "(III)I" } : Jvm.MethodName)) ∈ lw_tbl := mq_2 (List.mem_of_getElem? (i := 73) rfl)
theorem mw_314 : (Jvm.Cond.code ({ cls := "LineSorter$Places", name := "fieldStart", desc := "(III)I" } : Jvm.MethodName) prog_6_method_4_code (6 : Nat) (Option.some Jvm.ClassFile.FieldType.int)) ∈ lw_tbl := mq_2 (List.mem_of_getElem? (i := 74) rfl)
theorem mw_315 : (Jvm.Cond.methodLink "LineSorter$Places" (55 : Nat) ({ cls := "LineSorter$Places", name := "fieldStop", desc := "(II)I" } : Jvm.MethodName)) ∈ lw_tbl := mq_2 (List.mem_of_getElem? (i := 75) rfl)
theorem mw_317 : (Jvm.Cond.instanceMethod ({ cls := "LineSorter$Places", name := "fieldStop", desc := "(II)I" } : Jvm.MethodName)) ∈ lw_tbl := mq_2 (List.mem_of_getElem? (i := 77) rfl)
theorem mw_318 : (Jvm.Cond.code ({ cls := "LineSorter$Places", name := "fieldStop", desc := "(II)I" } : Jvm.MethodName) prog_6_method_5_code (5 : Nat) (Option.some Jvm.ClassFile.FieldType.int)) ∈ lw_tbl := mq_2 (List.mem_of_getElem? (i := 78) rfl)
theorem mw_319 : (Jvm.Cond.methodLink "LineSorter$Places" (37 : Nat) ({ cls := "LineSorter$Places", name := "passBlanksOfField", desc := "(II)I" } : Jvm.MethodName)) ∈ lw_tbl := mq_2 (List.mem_of_getElem? (i := 79) rfl)
theorem mw_321 : (Jvm.Cond.instanceMethod ({ cls := "LineSorter$Places", name := "passBlanksOfField", desc := "(II)I" } : Jvm.MethodName)) ∈ lw_tbl := mq_2 (List.mem_of_getElem? (i := 81) rfl)
theorem mw_322 : (Jvm.Cond.code ({ cls := "LineSorter$Places", name := "passBlanksOfField", desc := "(II)I" } : Jvm.MethodName) prog_6_method_6_code (4 : Nat) (Option.some Jvm.ClassFile.FieldType.int)) ∈ lw_tbl := mq_2 (List.mem_of_getElem? (i := 82) rfl)
theorem mw_323 : (Jvm.Cond.methodLink "LineSorter$Places" (62 : Nat) ({ cls := "LineSorter$Text", name := "isBlankAt", desc := "(I)Z" } : Jvm.MethodName)) ∈ lw_tbl := mq_2 (List.mem_of_getElem? (i := 83) rfl)
theorem mw_324 : (Jvm.Cond.instanceMethod ({ cls := "LineSorter$Text", name := "isBlankAt", desc := "(I)Z" } : Jvm.MethodName)) ∈ lw_tbl := mq_2 (List.mem_of_getElem? (i := 84) rfl)
theorem mw_325 : (Jvm.Cond.selects "LineSorter$Text" ({ cls := "LineSorter$Text", name := "isBlankAt", desc := "(I)Z" } : Jvm.MethodName) ({ cls := "LineSorter$Text", name := "isBlankAt", desc := "(I)Z" } : Jvm.MethodName)) ∈ lw_tbl := mq_2 (List.mem_of_getElem? (i := 85) rfl)
theorem mw_326 : (Jvm.Cond.code ({ cls := "LineSorter$Text", name := "isBlankAt", desc := "(I)Z" } : Jvm.MethodName) prog_9_method_9_code (2 : Nat) (Option.some Jvm.ClassFile.FieldType.boolean)) ∈ lw_tbl := mq_2 (List.mem_of_getElem? (i := 86) rfl)
theorem mw_327 : (Jvm.Cond.methodLink "LineSorter$Places" (66 : Nat) ({ cls := "LineSorter$Text", name := "at", desc := "(I)I" } : Jvm.MethodName)) ∈ lw_tbl := mq_2 (List.mem_of_getElem? (i := 87) rfl)
theorem mw_328 : (Jvm.Cond.instanceMethod ({ cls := "LineSorter$Text", name := "at", desc := "(I)I" } : Jvm.MethodName)) ∈ lw_tbl := mq_2 (List.mem_of_getElem? (i := 88) rfl)
theorem mw_329 : (Jvm.Cond.selects "LineSorter$Text" ({ cls := "LineSorter$Text", name := "at", desc := "(I)I" } : Jvm.MethodName) ({ cls := "LineSorter$Text", name := "at", desc := "(I)I" } : Jvm.MethodName)) ∈ lw_tbl := mq_2 (List.mem_of_getElem? (i := 89) rfl)
theorem mw_330 : (Jvm.Cond.code ({ cls := "LineSorter$Text", name := "at", desc := "(I)I" } : Jvm.MethodName) prog_9_method_8_code (2 : Nat) (Option.some Jvm.ClassFile.FieldType.int)) ∈ lw_tbl := mq_2 (List.mem_of_getElem? (i := 90) rfl)
theorem mw_331 : (Jvm.Cond.methodLink "LineSorter$Places" (44 : Nat) ({ cls := "java/lang/Math", name := "min", desc := "(II)I" } : Jvm.MethodName)) ∈ lw_tbl := mq_2 (List.mem_of_getElem? (i := 91) rfl)
theorem mw_332 : (Jvm.Cond.static ({ cls := "java/lang/Math", name := "min", desc := "(II)I" } : Jvm.MethodName)) ∈ lw_tbl := mq_2 (List.mem_of_getElem? (i := 92) rfl)
theorem mw_333 : (Jvm.Cond.code ({ cls := "java/lang/Math", name := "min", desc := "(II)I" } : Jvm.MethodName) prog_18_method_69_code (2 : Nat) (Option.some Jvm.ClassFile.FieldType.int)) ∈ lw_tbl := mq_2 (List.mem_of_getElem? (i := 93) rfl)
theorem mw_334 : (Jvm.Cond.methodLink "LineSorter$Order" (99 : Nat) ({ cls := "LineSorter$Places", name := "endOf", desc := "(LLineSorter$Key;II)I" } : Jvm.MethodName)) ∈ lw_tbl := mq_2 (List.mem_of_getElem? (i := 94) rfl)
theorem mw_335 : (Jvm.Cond.instanceMethod ({ cls := "LineSorter$Places", name := "endOf", desc := "(LLineSorter$Key;II)I" } : Jvm.MethodName)) ∈ lw_tbl := mq_2 (List.mem_of_getElem? (i := 95) rfl)
theorem mw_336 : (Jvm.Cond.selects "LineSorter$Places" ({ cls := "LineSorter$Places", name := "endOf", desc := "(LLineSorter$Key;II)I" } : Jvm.MethodName) ({ cls := "LineSorter$Places", name := "endOf", desc := "(LLineSorter$Key;II)I" } : Jvm.MethodName)) ∈ lw_tbl := mq_2 (List.mem_of_getElem? (i := 96) rfl)
theorem mw_337 : (Jvm.Cond.code ({ cls := "LineSorter$Places", name := "endOf", desc := "(LLineSorter$Key;II)I" } : Jvm.MethodName) prog_6_method_3_code (6 : Nat) (Option.some Jvm.ClassFile.FieldType.int)) ∈ lw_tbl := mq_2 (List.mem_of_getElem? (i := 97) rfl)
theorem mw_338 : (Jvm.Cond.methodLink "LineSorter$Order" (102 : Nat) ({ cls := "LineSorter$Order", name := "comparedAsNumbers", desc := "(IIII)I" } : Jvm.MethodName)) ∈ lw_tbl := mq_2 (List.mem_of_getElem? (i := 98) rfl)
theorem mw_340 : (Jvm.Cond.instanceMethod ({ cls := "LineSorter$Order", name := "comparedAsNumbers", desc := "(IIII)I" } : Jvm.MethodName)) ∈ lw_tbl := mq_2 (List.mem_of_getElem? (i := 100) rfl)
theorem mw_341 : (Jvm.Cond.code ({ cls := "LineSorter$Order", name := "comparedAsNumbers", desc := "(IIII)I" } : Jvm.MethodName) prog_5_method_8_code (6 : Nat) (Option.some Jvm.ClassFile.FieldType.int)) ∈ lw_tbl := mq_2 (List.mem_of_getElem? (i := 101) rfl)
theorem mw_342 : (Jvm.Cond.methodLink "LineSorter$Order" (106 : Nat) ({ cls := "LineSorter$Numeral", name := "read", desc := "(LLineSorter$Text;II)V" } : Jvm.MethodName)) ∈ lw_tbl := mq_2 (List.mem_of_getElem? (i := 102) rfl)
theorem mw_343 : (Jvm.Cond.instanceMethod ({ cls := "LineSorter$Numeral", name := "read", desc := "(LLineSorter$Text;II)V" } : Jvm.MethodName)) ∈ lw_tbl := mq_2 (List.mem_of_getElem? (i := 103) rfl)
theorem mw_344 : (Jvm.Cond.selects "LineSorter$Numeral" ({ cls := "LineSorter$Numeral", name := "read", desc := "(LLineSorter$Text;II)V" } : Jvm.MethodName) ({ cls := "LineSorter$Numeral", name := "read", desc := "(LLineSorter$Text;II)V" } : Jvm.MethodName)) ∈ lw_tbl := mq_2 (List.mem_of_getElem? (i := 104) rfl)
theorem mw_345 : (Jvm.Cond.code ({ cls := "LineSorter$Numeral", name := "read", desc := "(LLineSorter$Text;II)V" } : Jvm.MethodName) prog_4_method_2_code (8 : Nat) (Option.none : Option Jvm.ClassFile.FieldType)) ∈ lw_tbl := mq_2 (List.mem_of_getElem? (i := 105) rfl)
theorem mw_346 : (Jvm.Cond.methodLink "LineSorter$Numeral" (7 : Nat) ({ cls := "LineSorter$Text", name := "isBlankAt", desc := "(I)Z" } : Jvm.MethodName)) ∈ lw_tbl := mq_2 (List.mem_of_getElem? (i := 106) rfl)
theorem mw_347 : (Jvm.Cond.methodLink "LineSorter$Numeral" (13 : Nat) ({ cls := "LineSorter$Text", name := "at", desc := "(I)I" } : Jvm.MethodName)) ∈ lw_tbl := mq_2 (List.mem_of_getElem? (i := 107) rfl)
theorem mw_348 : (Jvm.Cond.methodLink "LineSorter$Numeral" (23 : Nat) ({ cls := "LineSorter$Text", name := "passDigits", desc := "(II)I" } : Jvm.MethodName)) ∈ lw_tbl := mq_2 (List.mem_of_getElem? (i := 108) rfl)
theorem mw_349 : (Jvm.Cond.instanceMethod ({ cls := "LineSorter$Text", name := "passDigits", desc := "(II)I" } : Jvm.MethodName)) ∈ lw_tbl := mq_2 (List.mem_of_getElem? (i := 109) rfl)
theorem mw_350 : (Jvm.Cond.selects "LineSorter$Text" ({ cls := "LineSorter$Text", name := "passDigits", desc := "(II)I" } : Jvm.MethodName) ({ cls := "LineSorter$Text", name := "passDigits", desc := "(II)I" } : Jvm.MethodName)) ∈ lw_tbl := mq_2 (List.mem_of_getElem? (i := 110) rfl)
theorem mw_351 : (Jvm.Cond.code ({ cls := "LineSorter$Text", name := "passDigits", desc := "(II)I" } : Jvm.MethodName) prog_9_method_10_code (4 : Nat) (Option.some Jvm.ClassFile.FieldType.int)) ∈ lw_tbl := mq_2 (List.mem_of_getElem? (i := 111) rfl)
theorem mw_352 : (Jvm.Cond.methodLink "LineSorter$Order" (113 : Nat) ({ cls := "java/lang/Integer", name := "compare", desc := "(II)I" } : Jvm.MethodName)) ∈ lw_tbl := mq_2 (List.mem_of_getElem? (i := 112) rfl)
theorem mw_353 : (Jvm.Cond.static ({ cls := "java/lang/Integer", name := "compare", desc := "(II)I" } : Jvm.MethodName)) ∈ lw_tbl := mq_2 (List.mem_of_getElem? (i := 113) rfl)
theorem mw_354 : (Jvm.Cond.code ({ cls := "java/lang/Integer", name := "compare", desc := "(II)I" } : Jvm.MethodName) prog_17_method_40_code (2 : Nat) (Option.some Jvm.ClassFile.FieldType.int)) ∈ lw_tbl := mq_2 (List.mem_of_getElem? (i := 114) rfl)
theorem mw_355 : (Jvm.Cond.methodLink "LineSorter$Order" (118 : Nat) ({ cls := "LineSorter$Numeral", name := "wholeLength", desc := "()I" } : Jvm.MethodName)) ∈ lw_tbl := mq_2 (List.mem_of_getElem? (i := 115) rfl)
theorem mw_356 : (Jvm.Cond.instanceMethod ({ cls := "LineSorter$Numeral", name := "wholeLength", desc := "()I" } : Jvm.MethodName)) ∈ lw_tbl := mq_2 (List.mem_of_getElem? (i := 116) rfl)
theorem mw_357 : (Jvm.Cond.selects "LineSorter$Numeral" ({ cls := "LineSorter$Numeral", name := "wholeLength", desc := "()I" } : Jvm.MethodName) ({ cls := "LineSorter$Numeral", name := "wholeLength", desc := "()I" } : Jvm.MethodName)) ∈ lw_tbl := mq_2 (List.mem_of_getElem? (i := 117) rfl)
theorem mw_358 : (Jvm.Cond.code ({ cls := "LineSorter$Numeral", name := "wholeLength", desc := "()I" } : Jvm.MethodName) prog_4_method_3_code (1 : Nat) (Option.some Jvm.ClassFile.FieldType.int)) ∈ lw_tbl := mq_2 (List.mem_of_getElem? (i := 118) rfl)
theorem mw_359 : (Jvm.Cond.methodLink "LineSorter$Order" (77 : Nat) ({ cls := "LineSorter$Text", name := "comparedBytes", desc := "(IIIII)I" } : Jvm.MethodName)) ∈ lw_tbl := mq_2 (List.mem_of_getElem? (i := 119) rfl)
theorem mw_360 : (Jvm.Cond.instanceMethod ({ cls := "LineSorter$Text", name := "comparedBytes", desc := "(IIIII)I" } : Jvm.MethodName)) ∈ lw_tbl := mq_2 (List.mem_of_getElem? (i := 120) rfl)
theorem mw_361 : (Jvm.Cond.selects "LineSorter$Text" ({ cls := "LineSorter$Text", name := "comparedBytes", desc := "(IIIII)I" } : Jvm.MethodName) ({ cls := "LineSorter$Text", name := "comparedBytes", desc := "(IIIII)I" } : Jvm.MethodName)) ∈ lw_tbl := mq_2 (List.mem_of_getElem? (i := 121) rfl)
theorem mw_362 : (Jvm.Cond.code ({ cls := "LineSorter$Text", name := "comparedBytes", desc := "(IIIII)I" } : Jvm.MethodName) prog_9_method_11_code (10 : Nat) (Option.some Jvm.ClassFile.FieldType.int)) ∈ lw_tbl := mq_2 (List.mem_of_getElem? (i := 122) rfl)
theorem mw_363 : (Jvm.Cond.methodLink "LineSorter$Text" (43 : Nat) ({ cls := "LineSorter$Text", name := "at", desc := "(I)I" } : Jvm.MethodName)) ∈ lw_tbl := mq_2 (List.mem_of_getElem? (i := 123) rfl)
theorem mw_364 : (Jvm.Cond.methodLink "LineSorter$Text" (46 : Nat) ({ cls := "LineSorter$Text", name := "weightOf", desc := "(II)I" } : Jvm.MethodName)) ∈ lw_tbl := mq_2 (List.mem_of_getElem? (i := 124) rfl)
theorem mw_365 : (Jvm.Cond.static ({ cls := "LineSorter$Text", name := "weightOf", desc := "(II)I" } : Jvm.MethodName)) ∈ lw_tbl := mq_2 (List.mem_of_getElem? (i := 125) rfl)
theorem mw_366 : (Jvm.Cond.code ({ cls := "LineSorter$Text", name := "weightOf", desc := "(II)I" } : Jvm.MethodName) prog_9_method_12_code (6 : Nat) (Option.some Jvm.ClassFile.FieldType.int)) ∈ lw_tbl := mq_2 (List.mem_of_getElem? (i := 126) rfl)
theorem mw_367 : (Jvm.Cond.methodLink "LineSorter$Order" (68 : Nat) ({ cls := "LineSorter$Text", name := "startOf", desc := "(I)I" } : Jvm.MethodName)) ∈ lw_tbl := mq_2 (List.mem_of_getElem? (i := 127) rfl)
theorem mw_368 : (Jvm.Cond.methodLink "LineSorter$Order" (74 : Nat) ({ cls := "LineSorter$Text", name := "stopOf", desc := "(I)I" } : Jvm.MethodName)) ∈ lw_tbl := mq_2 (List.mem_of_getElem? (i := 128) rfl)
theorem mw_369 : (Jvm.Cond.methodLink "LineSorterLaw" (117 : Nat) ({ cls := "LineSorter", name := "result", desc := "(I)I" } : Jvm.MethodName)) ∈ lw_tbl := mq_2 (List.mem_of_getElem? (i := 129) rfl)
theorem mw_370 : (Jvm.Cond.instanceMethod ({ cls := "LineSorter", name := "result", desc := "(I)I" } : Jvm.MethodName)) ∈ lw_tbl := mq_2 (List.mem_of_getElem? (i := 130) rfl)
theorem mw_371 : (Jvm.Cond.selects "LineSorter" ({ cls := "LineSorter", name := "result", desc := "(I)I" } : Jvm.MethodName) ({ cls := "LineSorter", name := "result", desc := "(I)I" } : Jvm.MethodName)) ∈ lw_tbl := mq_2 (List.mem_of_getElem? (i := 131) rfl)
theorem mw_372 : (Jvm.Cond.code ({ cls := "LineSorter", name := "result", desc := "(I)I" } : Jvm.MethodName) prog_1_method_15_code (2 : Nat) (Option.some Jvm.ClassFile.FieldType.int)) ∈ lw_tbl := mq_2 (List.mem_of_getElem? (i := 132) rfl)
theorem mw_373 : (Jvm.Cond.methodLink "LineSorter" (87 : Nat) ({ cls := "LineSorter", name := "isWithin", desc := "(III)Z" } : Jvm.MethodName)) ∈ lw_tbl := mq_2 (List.mem_of_getElem? (i := 133) rfl)
theorem mw_374 : (Jvm.Cond.static ({ cls := "LineSorter", name := "isWithin", desc := "(III)Z" } : Jvm.MethodName)) ∈ lw_tbl := mq_2 (List.mem_of_getElem? (i := 134) rfl)
theorem mw_375 : (Jvm.Cond.code ({ cls := "LineSorter", name := "isWithin", desc := "(III)Z" } : Jvm.MethodName) prog_1_method_21_code (3 : Nat) (Option.some Jvm.ClassFile.FieldType.boolean)) ∈ lw_tbl := mq_2 (List.mem_of_getElem? (i := 135) rfl)
theorem mw_376 : (Jvm.Cond.methodLink "LineSorterLaw" (121 : Nat) ({ cls := "LineSorter", name := "byteAt", desc := "(II)I" } : Jvm.MethodName)) ∈ lw_tbl := mq_2 (List.mem_of_getElem? (i := 136) rfl)
theorem mw_377 : (Jvm.Cond.instanceMethod ({ cls := "LineSorter", name := "byteAt", desc := "(II)I" } : Jvm.MethodName)) ∈ lw_tbl := mq_2 (List.mem_of_getElem? (i := 137) rfl)
theorem mw_378 : (Jvm.Cond.selects "LineSorter" ({ cls := "LineSorter", name := "byteAt", desc := "(II)I" } : Jvm.MethodName) ({ cls := "LineSorter", name := "byteAt", desc := "(II)I" } : Jvm.MethodName)) ∈ lw_tbl := mq_2 (List.mem_of_getElem? (i := 138) rfl)
theorem mw_379 : (Jvm.Cond.code ({ cls := "LineSorter", name := "byteAt", desc := "(II)I" } : Jvm.MethodName) prog_1_method_16_code (5 : Nat) (Option.some Jvm.ClassFile.FieldType.int)) ∈ lw_tbl := mq_2 (List.mem_of_getElem? (i := 139) rfl)
theorem mw_380 : (Jvm.Cond.methodLink "LineSorter" (168 : Nat) ({ cls := "LineSorter$Text", name := "startOf", desc := "(I)I" } : Jvm.MethodName)) ∈ lw_tbl := mq_2 (List.mem_of_getElem? (i := 140) rfl)
theorem mw_381 : (Jvm.Cond.methodLink "LineSorter" (216 : Nat) ({ cls := "LineSorter$Text", name := "stopOf", desc := "(I)I" } : Jvm.MethodName)) ∈ lw_tbl := mq_2 (List.mem_of_getElem? (i := 141) rfl)
theorem mw_382 : (Jvm.Cond.methodLink "LineSorter" (219 : Nat) ({ cls := "LineSorter$Text", name := "at", desc := "(I)I" } : Jvm.MethodName)) ∈ lw_tbl := mq_2 (List.mem_of_getElem? (i := 142) rfl)
theorem mw_383 : (Jvm.Cond.methodLink "LineSorterLaw" (125 : Nat) ({ cls := "LineSorter", name := "run", desc := "(I)I" } : Jvm.MethodName)) ∈ lw_tbl := mq_2 (List.mem_of_getElem? (i := 143) rfl)
theorem mw_384 : (Jvm.Cond.instanceMethod ({ cls := "LineSorter", name := "run", desc := "(I)I" } : Jvm.MethodName)) ∈ lw_tbl := mq_2 (List.mem_of_getElem? (i := 144) rfl)
theorem mw_385 : (Jvm.Cond.selects "LineSorter" ({ cls := "LineSorter", name := "run", desc := "(I)I" } : Jvm.MethodName) ({ cls := "LineSorter", name := "run", desc := "(I)I" } : Jvm.MethodName)) ∈ lw_tbl := mq_2 (List.mem_of_getElem? (i := 145) rfl)
theorem mw_386 : (Jvm.Cond.code ({ cls := "LineSorter", name := "run", desc := "(I)I" } : Jvm.MethodName) prog_1_method_17_code (2 : Nat) (Option.some Jvm.ClassFile.FieldType.int)) ∈ lw_tbl := mq_2 (List.mem_of_getElem? (i := 146) rfl)
theorem mw_387 : (Jvm.Cond.methodLink "LineSorterLaw" (62 : Nat) ({ cls := "LineSorterLaw", name := "feed", desc := "(LLineSorter;IIIII[J)I" } : Jvm.MethodName)) ∈ lw_tbl := mq_2 (List.mem_of_getElem? (i := 147) rfl)
theorem mw_391 : (Jvm.Cond.methodLink "LineSorterLaw" (7 : Nat) ({ cls := "LineSorter", name := "feed", desc := "(IIIII)I" } : Jvm.MethodName)) ∈ lw_tbl := mq_2 (List.mem_of_getElem? (i := 151) rfl)
theorem mw_392 : (Jvm.Cond.instanceMethod ({ cls := "LineSorter", name := "feed", desc := "(IIIII)I" } : Jvm.MethodName)) ∈ lw_tbl := mq_2 (List.mem_of_getElem? (i := 152) rfl)
theorem mw_393 : (Jvm.Cond.selects "LineSorter" ({ cls := "LineSorter", name := "feed", desc := "(IIIII)I" } : Jvm.MethodName) ({ cls := "LineSorter", name := "feed", desc := "(IIIII)I" } : Jvm.MethodName)) ∈ lw_tbl := mq_2 (List.mem_of_getElem? (i := 153) rfl)
theorem mw_394 : (Jvm.Cond.code ({ cls := "LineSorter", name := "feed", desc := "(IIIII)I" } : Jvm.MethodName) prog_1_method_2_code (6 : Nat) (Option.some Jvm.ClassFile.FieldType.int)) ∈ lw_tbl := mq_2 (List.mem_of_getElem? (i := 154) rfl)
theorem mw_438 : (Jvm.Cond.methodLink "LineSorter" (80 : Nat) ({ cls := "java/lang/IllegalStateException", name := "<init>", desc := "(Ljava/lang/String;)V" } : Jvm.MethodName)) ∈ lw_tbl := mq_2 (List.mem_of_getElem? (i := 198) rfl)
theorem mw_463 : (Jvm.Cond.methodLink "LineSorter" (83 : Nat) ({ cls := "LineSorter$Text", name := "append", desc := "(I)V" } : Jvm.MethodName)) ∈ lw_tbl := mq_2 (List.mem_of_getElem? (i := 223) rfl)
theorem mw_464 : (Jvm.Cond.instanceMethod ({ cls := "LineSorter$Text", name := "append", desc := "(I)V" } : Jvm.MethodName)) ∈ lw_tbl := mq_2 (List.mem_of_getElem? (i := 224) rfl)
theorem mw_465 : (Jvm.Cond.selects "LineSorter$Text" ({ cls := "LineSorter$Text", name := "append", desc := "(I)V" } : Jvm.MethodName) ({ cls := "LineSorter$Text", name := "append", desc := "(I)V" } : Jvm.MethodName)) ∈ lw_tbl := mq_2 (List.mem_of_getElem? (i := 225) rfl)
theorem mw_466 : (Jvm.Cond.code ({ cls := "LineSorter$Text", name := "append", desc := "(I)V" } : Jvm.MethodName) prog_9_method_2_code (4 : Nat) (Option.none : Option Jvm.ClassFile.FieldType)) ∈ lw_tbl := mq_2 (List.mem_of_getElem? (i := 226) rfl)
theorem mw_467 : (Jvm.Cond.methodLink "LineSorter$Text" (26 : Nat) ({ cls := "LineSorter$Text", name := "makeRoom", desc := "(I)V" } : Jvm.MethodName)) ∈ lw_tbl := mq_2 (List.mem_of_getElem? (i := 227) rfl)
theorem mw_469 : (Jvm.Cond.instanceMethod ({ cls := "LineSorter$Text", name := "makeRoom", desc := "(I)V" } : Jvm.MethodName)) ∈ lw_tbl := mq_2 (List.mem_of_getElem? (i := 229) rfl)
theorem mw_470 : (Jvm.Cond.code ({ cls := "LineSorter$Text", name := "makeRoom", desc := "(I)V" } : Jvm.MethodName) prog_9_method_3_code (2 : Nat) (Option.none : Option Jvm.ClassFile.FieldType)) ∈ lw_tbl := mq_2 (List.mem_of_getElem? (i := 230) rfl)
theorem mw_471 : (Jvm.Cond.methodLink "LineSorter$Text" (30 : Nat) ({ cls := "java/util/Arrays", name := "copyOf", desc := "([BI)[B" } : Jvm.MethodName)) ∈ lw_tbl := mq_2 (List.mem_of_getElem? (i := 231) rfl)
theorem mw_472 : (Jvm.Cond.static ({ cls := "java/util/Arrays", name := "copyOf", desc := "([BI)[B" } : Jvm.MethodName)) ∈ lw_tbl := mq_2 (List.mem_of_getElem? (i := 232) rfl)
theorem mw_473 : (Jvm.Cond.code ({ cls := "java/util/Arrays", name := "copyOf", desc := "([BI)[B" } : Jvm.MethodName) prog_24_method_121_code (3 : Nat) (Option.some (Jvm.ClassFile.FieldType.array Jvm.ClassFile.FieldType.byte))) ∈ lw_tbl := mq_2 (List.mem_of_getElem? (i := 233) rfl)
theorem mw_481 : (Jvm.Cond.methodLink "java/util/Arrays" (304 : Nat) ({ cls := "java/lang/Math", name := "min", desc := "(II)I" } : Jvm.MethodName)) ∈ lw_tbl := mq_3 (List.mem_of_getElem? (i := 1) rfl)
theorem mw_482 : (Jvm.Cond.methodLink "java/util/Arrays" (150 : Nat) ({ cls := "java/lang/System", name := "arraycopy", desc := "(Ljava/lang/Object;ILjava/lang/Object;II)V" } : Jvm.MethodName)) ∈ lw_tbl := mq_3 (List.mem_of_getElem? (i := 2) rfl)
theorem mw_485 : (Jvm.Cond.methodLink "LineSorter$Text" (36 : Nat) ({ cls := "java/util/Arrays", name := "copyOf", desc := "([II)[I" } : Jvm.MethodName)) ∈ lw_tbl := mq_3 (List.mem_of_getElem? (i := 5) rfl)
theorem mw_486 : (Jvm.Cond.static ({ cls := "java/util/Arrays", name := "copyOf", desc := "([II)[I" } : Jvm.MethodName)) ∈ lw_tbl := mq_3 (List.mem_of_getElem? (i := 6) rfl)
theorem mw_487 : (Jvm.Cond.code ({ cls := "java/util/Arrays", name := "copyOf", desc := "([II)[I" } : Jvm.MethodName) prog_24_method_123_code (3 : Nat) (Option.some (Jvm.ClassFile.FieldType.array Jvm.ClassFile.FieldType.int))) ∈ lw_tbl := mq_3 (List.mem_of_getElem? (i := 7) rfl)
theorem mw_493 : (Jvm.Cond.methodLink "LineSorterLaw" (71 : Nat) ({ cls := "LineSorterLaw", name := "end", desc := "(LLineSorter;I)I" } : Jvm.MethodName)) ∈ lw_tbl := mq_3 (List.mem_of_getElem? (i := 13) rfl)
theorem mw_497 : (Jvm.Cond.methodLink "LineSorterLaw" (15 : Nat) ({ cls := "LineSorter", name := "end", desc := "(I)V" } : Jvm.MethodName)) ∈ lw_tbl := mq_3 (List.mem_of_getElem? (i := 17) rfl)
theorem mw_498 : (Jvm.Cond.instanceMethod ({ cls := "LineSorter", name := "end", desc := "(I)V" } : Jvm.MethodName)) ∈ lw_tbl := mq_3 (List.mem_of_getElem? (i := 18) rfl)
theorem mw_499 : (Jvm.Cond.selects "LineSorter" ({ cls := "LineSorter", name := "end", desc := "(I)V" } : Jvm.MethodName) ({ cls := "LineSorter", name := "end", desc := "(I)V" } : Jvm.MethodName)) ∈ lw_tbl := mq_3 (List.mem_of_getElem? (i := 19) rfl)
theorem mw_500 : (Jvm.Cond.code ({ cls := "LineSorter", name := "end", desc := "(I)V" } : Jvm.MethodName) prog_1_method_3_code (2 : Nat) (Option.none : Option Jvm.ClassFile.FieldType)) ∈ lw_tbl := mq_3 (List.mem_of_getElem? (i := 20) rfl)
theorem mw_511 : (Jvm.Cond.methodLink "LineSorter" (95 : Nat) ({ cls := "java/lang/IllegalArgumentException", name := "<init>", desc := "(Ljava/lang/String;)V" } : Jvm.MethodName)) ∈ lw_tbl := mq_3 (List.mem_of_getElem? (i := 31) rfl)
theorem mw_517 : (Jvm.Cond.methodLink "LineSorter" (96 : Nat) ({ cls := "LineSorter$Text", name := "keepFirst", desc := "(I)V" } : Jvm.MethodName)) ∈ lw_tbl := mq_3 (List.mem_of_getElem? (i := 37) rfl)
theorem mw_518 : (Jvm.Cond.instanceMethod ({ cls := "LineSorter$Text", name := "keepFirst", desc := "(I)V" } : Jvm.MethodName)) ∈ lw_tbl := mq_3 (List.mem_of_getElem? (i := 38) rfl)
theorem mw_519 : (Jvm.Cond.selects "LineSorter$Text" ({ cls := "LineSorter$Text", name := "keepFirst", desc := "(I)V" } : Jvm.MethodName) ({ cls := "LineSorter$Text", name := "keepFirst", desc := "(I)V" } : Jvm.MethodName)) ∈ lw_tbl := mq_3 (List.mem_of_getElem? (i := 39) rfl)
theorem mw_520 : (Jvm.Cond.code ({ cls := "LineSorter$Text", name := "keepFirst", desc := "(I)V" } : Jvm.MethodName) prog_9_method_4_code (2 : Nat) (Option.none : Option Jvm.ClassFile.FieldType)) ∈ lw_tbl := mq_3 (List.mem_of_getElem? (i := 40) rfl)
theorem mw_521 : (Jvm.Cond.methodLink "LineSorterLaw" (75 : Nat) ({ cls := "LineSorterLaw", name := "ways", desc := "(LLineSorter;IZZ)I" } : Jvm.MethodName)) ∈ lw_tbl := mq_3 (List.mem_of_getElem? (i := 41) rfl)
theorem mw_524 : (Jvm.Cond.methodLink "LineSorterLaw" (21 : Nat) ({ cls := "LineSorter", name := "ways", desc := "(IZZ)V" } : Jvm.MethodName)) ∈ lw_tbl := mq_3 (List.mem_of_getElem? (i := 44) rfl)
theorem mw_525 : (Jvm.Cond.instanceMethod ({ cls := "LineSorter", name := "ways", desc := "(IZZ)V" } : Jvm.MethodName)) ∈ lw_tbl := mq_3 (List.mem_of_getElem? (i := 45) rfl)
theorem mw_526 : (Jvm.Cond.selects "LineSorter" ({ cls := "LineSorter", name := "ways", desc := "(IZZ)V" } : Jvm.MethodName) ({ cls := "LineSorter", name := "ways", desc := "(IZZ)V" } : Jvm.MethodName)) ∈ lw_tbl := mq_3 (List.mem_of_getElem? (i := 46) rfl)
theorem mw_527 : (Jvm.Cond.code ({ cls := "LineSorter", name := "ways", desc := "(IZZ)V" } : Jvm.MethodName) prog_1_method_4_code (4 : Nat) (Option.none : Option Jvm.ClassFile.FieldType)) ∈ lw_tbl := mq_3 (List.mem_of_getElem? (i := 47) rfl)
theorem mw_529 : (Jvm.Cond.methodLink "LineSorterLaw" (79 : Nat) ({ cls := "LineSorterLaw", name := "separator", desc := "(LLineSorter;I)I" } : Jvm.MethodName)) ∈ lw_tbl := mq_3 (List.mem_of_getElem? (i := 49) rfl)
theorem mw_532 : (Jvm.Cond.methodLink "LineSorterLaw" (25 : Nat) ({ cls := "LineSorter", name := "separator", desc := "(I)V" } : Jvm.MethodName)) ∈ lw_tbl := mq_3 (List.mem_of_getElem? (i := 52) rfl)
theorem mw_533 : (Jvm.Cond.instanceMethod ({ cls := "LineSorter", name := "separator", desc := "(I)V" } : Jvm.MethodName)) ∈ lw_tbl := mq_3 (List.mem_of_getElem? (i := 53) rfl)
theorem mw_534 : (Jvm.Cond.selects "LineSorter" ({ cls := "LineSorter", name := "separator", desc := "(I)V" } : Jvm.MethodName) ({ cls := "LineSorter", name := "separator", desc := "(I)V" } : Jvm.MethodName)) ∈ lw_tbl := mq_3 (List.mem_of_getElem? (i := 54) rfl)
theorem mw_535 : (Jvm.Cond.code ({ cls := "LineSorter", name := "separator", desc := "(I)V" } : Jvm.MethodName) prog_1_method_5_code (2 : Nat) (Option.none : Option Jvm.ClassFile.FieldType)) ∈ lw_tbl := mq_3 (List.mem_of_getElem? (i := 55) rfl)
theorem mw_537 : (Jvm.Cond.methodLink "LineSorterLaw" (82 : Nat) ({ cls := "LineSorterLaw", name := "key", desc := "(LLineSorter;IIIII[J)I" } : Jvm.MethodName)) ∈ lw_tbl := mq_3 (List.mem_of_getElem? (i := 57) rfl)
theorem mw_541 : (Jvm.Cond.methodLink "LineSorterLaw" (28 : Nat) ({ cls := "LineSorter", name := "key", desc := "(IIIII)I" } : Jvm.MethodName)) ∈ lw_tbl := mq_3 (List.mem_of_getElem? (i := 61) rfl)
theorem mw_542 : (Jvm.Cond.instanceMethod ({ cls := "LineSorter", name := "key", desc := "(IIIII)I" } : Jvm.MethodName)) ∈ lw_tbl := mq_3 (List.mem_of_getElem? (i := 62) rfl)
theorem mw_543 : (Jvm.Cond.selects "LineSorter" ({ cls := "LineSorter", name := "key", desc := "(IIIII)I" } : Jvm.MethodName) ({ cls := "LineSorter", name := "key", desc := "(IIIII)I" } : Jvm.MethodName)) ∈ lw_tbl := mq_3 (List.mem_of_getElem? (i := 63) rfl)
theorem mw_544 : (Jvm.Cond.code ({ cls := "LineSorter", name := "key", desc := "(IIIII)I" } : Jvm.MethodName) prog_1_method_6_code (8 : Nat) (Option.some Jvm.ClassFile.FieldType.int)) ∈ lw_tbl := mq_3 (List.mem_of_getElem? (i := 64) rfl)
theorem mw_556 : (Jvm.Cond.methodLink "LineSorter" (125 : Nat) ({ cls := "java/lang/UnsupportedOperationException", name := "<init>", desc := "(Ljava/lang/String;)V" } : Jvm.MethodName)) ∈ lw_tbl := mq_3 (List.mem_of_getElem? (i := 76) rfl)
theorem mw_562 : (Jvm.Cond.classLink "LineSorter" (126 : Nat) "LineSorter$Key") ∈ lw_tbl := mq_3 (List.mem_of_getElem? (i := 82) rfl)
theorem mw_563 : (Jvm.Cond.methodLink "LineSorter" (128 : Nat) ({ cls := "LineSorter$Key", name := "<init>", desc := "(IIIII)V" } : Jvm.MethodName)) ∈ lw_tbl := mq_3 (List.mem_of_getElem? (i := 83) rfl)
theorem mw_564 : (Jvm.Cond.methodLink "LineSorter" (131 : Nat) ({ cls := "LineSorter$Order", name := "addKey", desc := "(LLineSorter$Key;)V" } : Jvm.MethodName)) ∈ lw_tbl := mq_3 (List.mem_of_getElem? (i := 84) rfl)
theorem mw_565 : (Jvm.Cond.instanceMethod ({ cls := "LineSorter$Order", name := "addKey", desc := "(LLineSorter$Key;)V" } : Jvm.MethodName)) ∈ lw_tbl := mq_3 (List.mem_of_getElem? (i := 85) rfl)
theorem mw_566 : (Jvm.Cond.selects "LineSorter$Order" ({ cls := "LineSorter$Order", name := "addKey", desc := "(LLineSorter$Key;)V" } : Jvm.MethodName) ({ cls := "LineSorter$Order", name := "addKey", desc := "(LLineSorter$Key;)V" } : Jvm.MethodName)) ∈ lw_tbl := mq_3 (List.mem_of_getElem? (i := 86) rfl)
theorem mw_567 : (Jvm.Cond.code ({ cls := "LineSorter$Order", name := "addKey", desc := "(LLineSorter$Key;)V" } : Jvm.MethodName) prog_5_method_2_code (2 : Nat) (Option.none : Option Jvm.ClassFile.FieldType)) ∈ lw_tbl := mq_3 (List.mem_of_getElem? (i := 87) rfl)
theorem mw_568 : (Jvm.Cond.methodLink "LineSorterLaw" (89 : Nat) ({ cls := "LineSorterLaw", name := "memory", desc := "(LLineSorter;II)I" } : Jvm.MethodName)) ∈ lw_tbl := mq_3 (List.mem_of_getElem? (i := 88) rfl)
theorem mw_571 : (Jvm.Cond.methodLink "LineSorterLaw" (33 : Nat) ({ cls := "LineSorter", name := "memory", desc := "(II)V" } : Jvm.MethodName)) ∈ lw_tbl := mq_3 (List.mem_of_getElem? (i := 91) rfl)
theorem mw_572 : (Jvm.Cond.instanceMethod ({ cls := "LineSorter", name := "memory", desc := "(II)V" } : Jvm.MethodName)) ∈ lw_tbl := mq_3 (List.mem_of_getElem? (i := 92) rfl)
theorem mw_573 : (Jvm.Cond.selects "LineSorter" ({ cls := "LineSorter", name := "memory", desc := "(II)V" } : Jvm.MethodName) ({ cls := "LineSorter", name := "memory", desc := "(II)V" } : Jvm.MethodName)) ∈ lw_tbl := mq_3 (List.mem_of_getElem? (i := 93) rfl)
theorem mw_574 : (Jvm.Cond.code ({ cls := "LineSorter", name := "memory", desc := "(II)V" } : Jvm.MethodName) prog_1_method_8_code (3 : Nat) (Option.none : Option Jvm.ClassFile.FieldType)) ∈ lw_tbl := mq_3 (List.mem_of_getElem? (i := 94) rfl)
theorem mw_576 : (Jvm.Cond.methodLink "LineSorterLaw" (97 : Nat) ({ cls := "LineSorterLaw", name := "place", desc := "(LLineSorter;IIZ[J)I" } : Jvm.MethodName)) ∈ lw_tbl := mq_3 (List.mem_of_getElem? (i := 96) rfl)
theorem mw_580 : (Jvm.Cond.methodLink "LineSorterLaw" (37 : Nat) ({ cls := "LineSorter", name := "place", desc := "(IIZ)I" } : Jvm.MethodName)) ∈ lw_tbl := mq_3 (List.mem_of_getElem? (i := 100) rfl)
theorem mw_581 : (Jvm.Cond.instanceMethod ({ cls := "LineSorter", name := "place", desc := "(IIZ)I" } : Jvm.MethodName)) ∈ lw_tbl := mq_3 (List.mem_of_getElem? (i := 101) rfl)
theorem mw_582 : (Jvm.Cond.selects "LineSorter" ({ cls := "LineSorter", name := "place", desc := "(IIZ)I" } : Jvm.MethodName) ({ cls := "LineSorter", name := "place", desc := "(IIZ)I" } : Jvm.MethodName)) ∈ lw_tbl := mq_3 (List.mem_of_getElem? (i := 102) rfl)
theorem mw_583 : (Jvm.Cond.code ({ cls := "LineSorter", name := "place", desc := "(IIZ)I" } : Jvm.MethodName) prog_1_method_10_code (7 : Nat) (Option.some Jvm.ClassFile.FieldType.int)) ∈ lw_tbl := mq_3 (List.mem_of_getElem? (i := 103) rfl)
theorem mw_584 : (Jvm.Cond.methodLink "LineSorter" (141 : Nat) ({ cls := "LineSorter", name := "isLine", desc := "(I)Z" } : Jvm.MethodName)) ∈ lw_tbl := mq_3 (List.mem_of_getElem? (i := 104) rfl)
theorem mw_586 : (Jvm.Cond.instanceMethod ({ cls := "LineSorter", name := "isLine", desc := "(I)Z" } : Jvm.MethodName)) ∈ lw_tbl := mq_3 (List.mem_of_getElem? (i := 106) rfl)
theorem mw_587 : (Jvm.Cond.code ({ cls := "LineSorter", name := "isLine", desc := "(I)Z" } : Jvm.MethodName) prog_1_method_19_code (2 : Nat) (Option.some Jvm.ClassFile.FieldType.boolean)) ∈ lw_tbl := mq_3 (List.mem_of_getElem? (i := 107) rfl)
theorem mw_588 : (Jvm.Cond.methodLink "LineSorter" (145 : Nat) ({ cls := "LineSorter$Order", name := "keysInUse", desc := "()I" } : Jvm.MethodName)) ∈ lw_tbl := mq_3 (List.mem_of_getElem? (i := 108) rfl)
theorem mw_599 : (Jvm.Cond.methodLink "LineSorter" (152 : Nat) ({ cls := "java/lang/IndexOutOfBoundsException", name := "<init>", desc := "(Ljava/lang/String;)V" } : Jvm.MethodName)) ∈ lw_tbl := mq_3 (List.mem_of_getElem? (i := 119) rfl)
theorem mw_605 : (Jvm.Cond.methodLink "LineSorter" (153 : Nat) ({ cls := "LineSorter$Order", name := "keyInUse", desc := "(I)LLineSorter$Key;" } : Jvm.MethodName)) ∈ lw_tbl := mq_3 (List.mem_of_getElem? (i := 125) rfl)
theorem mw_606 : (Jvm.Cond.methodLink "LineSorter" (157 : Nat) ({ cls := "LineSorter$Order", name := "flagsOf", desc := "(LLineSorter$Key;)I" } : Jvm.MethodName)) ∈ lw_tbl := mq_3 (List.mem_of_getElem? (i := 126) rfl)
theorem mw_607 : (Jvm.Cond.methodLink "LineSorter" (161 : Nat) ({ cls := "LineSorter$Places", name := "endOf", desc := "(LLineSorter$Key;II)I" } : Jvm.MethodName)) ∈ lw_tbl := mq_3 (List.mem_of_getElem? (i := 127) rfl)
theorem mw_608 : (Jvm.Cond.methodLink "LineSorter" (165 : Nat) ({ cls := "LineSorter$Places", name := "beginOf", desc := "(LLineSorter$Key;II)I" } : Jvm.MethodName)) ∈ lw_tbl := mq_3 (List.mem_of_getElem? (i := 128) rfl)
theorem mw_609 : (Jvm.Cond.methodLink "LineSorterLaw" (101 : Nat) ({ cls := "LineSorterLaw", name := "compare", desc := "(LLineSorter;II[J)I" } : Jvm.MethodName)) ∈ lw_tbl := mq_3 (List.mem_of_getElem? (i := 129) rfl)
theorem mw_612 : (Jvm.Cond.methodLink "LineSorterLaw" (43 : Nat) ({ cls := "LineSorter", name := "compare", desc := "(II)I" } : Jvm.MethodName)) ∈ lw_tbl := mq_3 (List.mem_of_getElem? (i := 132) rfl)
theorem mw_613 : (Jvm.Cond.instanceMethod ({ cls := "LineSorter", name := "compare", desc := "(II)I" } : Jvm.MethodName)) ∈ lw_tbl := mq_3 (List.mem_of_getElem? (i := 133) rfl)
theorem mw_614 : (Jvm.Cond.selects "LineSorter" ({ cls := "LineSorter", name := "compare", desc := "(II)I" } : Jvm.MethodName) ({ cls := "LineSorter", name := "compare", desc := "(II)I" } : Jvm.MethodName)) ∈ lw_tbl := mq_3 (List.mem_of_getElem? (i := 134) rfl)
theorem mw_615 : (Jvm.Cond.code ({ cls := "LineSorter", name := "compare", desc := "(II)I" } : Jvm.MethodName) prog_1_method_11_code (3 : Nat) (Option.some Jvm.ClassFile.FieldType.int)) ∈ lw_tbl := mq_3 (List.mem_of_getElem? (i := 135) rfl)
theorem mw_617 : (Jvm.Cond.methodLink "LineSorter" (174 : Nat) ({ cls := "LineSorter$Order", name := "comparedByKeys", desc := "(II)I" } : Jvm.MethodName)) ∈ lw_tbl := mq_3 (List.mem_of_getElem? (i := 137) rfl)
theorem mw_618 : (Jvm.Cond.methodLink "LineSorterLaw" (105 : Nat) ({ cls := "LineSorterLaw", name := "sort", desc := "(LLineSorter;[J)I" } : Jvm.MethodName)) ∈ lw_tbl := mq_3 (List.mem_of_getElem? (i := 138) rfl)
theorem mw_621 : (Jvm.Cond.methodLink "LineSorterLaw" (47 : Nat) ({ cls := "LineSorter", name := "sort", desc := "()I" } : Jvm.MethodName)) ∈ lw_tbl := mq_3 (List.mem_of_getElem? (i := 141) rfl)
theorem mw_622 : (Jvm.Cond.instanceMethod ({ cls := "LineSorter", name := "sort", desc := "()I" } : Jvm.MethodName)) ∈ lw_tbl := mq_3 (List.mem_of_getElem? (i := 142) rfl)
theorem mw_623 : (Jvm.Cond.selects "LineSorter" ({ cls := "LineSorter", name := "sort", desc := "()I" } : Jvm.MethodName) ({ cls := "LineSorter", name := "sort", desc := "()I" } : Jvm.MethodName)) ∈ lw_tbl := mq_3 (List.mem_of_getElem? (i := 143) rfl)
theorem mw_624 : (Jvm.Cond.code ({ cls := "LineSorter", name := "sort", desc := "()I" } : Jvm.MethodName) prog_1_method_12_code (3 : Nat) (Option.some Jvm.ClassFile.FieldType.int)) ∈ lw_tbl := mq_3 (List.mem_of_getElem? (i := 144) rfl)
theorem mw_626 : (Jvm.Cond.methodLink "LineSorter" (180 : Nat) ({ cls := "LineSorter$Ranking", name := "rankFirst", desc := "(I)V" } : Jvm.MethodName)) ∈ lw_tbl := mq_3 (List.mem_of_getElem? (i := 146) rfl)
theorem mw_627 : (Jvm.Cond.instanceMethod ({ cls := "LineSorter$Ranking", name := "rankFirst", desc := "(I)V" } : Jvm.MethodName)) ∈ lw_tbl := mq_3 (List.mem_of_getElem? (i := 147) rfl)
theorem mw_628 : (Jvm.Cond.selects "LineSorter$Ranking" ({ cls := "LineSorter$Ranking", name := "rankFirst", desc := "(I)V" } : Jvm.MethodName) ({ cls := "LineSorter$Ranking", name := "rankFirst", desc := "(I)V" } : Jvm.MethodName)) ∈ lw_tbl := mq_3 (List.mem_of_getElem? (i := 148) rfl)
theorem mw_629 : (Jvm.Cond.code ({ cls := "LineSorter$Ranking", name := "rankFirst", desc := "(I)V" } : Jvm.MethodName) prog_7_method_2_code (6 : Nat) (Option.none : Option Jvm.ClassFile.FieldType)) ∈ lw_tbl := mq_3 (List.mem_of_getElem? (i := 149) rfl)
theorem mw_630 : (Jvm.Cond.methodLink "LineSorter$Ranking" (22 : Nat) ({ cls := "LineSorter$Order", name := "comparedNumbersAside", desc := "(II)I" } : Jvm.MethodName)) ∈ lw_tbl := mq_3 (List.mem_of_getElem? (i := 150) rfl)
theorem mw_631 : (Jvm.Cond.methodLink "LineSorter$Ranking" (28 : Nat) ({ cls := "java/lang/System", name := "arraycopy", desc := "(Ljava/lang/Object;ILjava/lang/Object;II)V" } : Jvm.MethodName)) ∈ lw_tbl := mq_3 (List.mem_of_getElem? (i := 151) rfl)
theorem mw_632 : (Jvm.Cond.methodLink "LineSorter" (183 : Nat) ({ cls := "LineSorter$Runs", name := "makeRuns", desc := "(II)V" } : Jvm.MethodName)) ∈ lw_tbl := mq_3 (List.mem_of_getElem? (i := 152) rfl)
theorem mw_633 : (Jvm.Cond.instanceMethod ({ cls := "LineSorter$Runs", name := "makeRuns", desc := "(II)V" } : Jvm.MethodName)) ∈ lw_tbl := mq_3 (List.mem_of_getElem? (i := 153) rfl)
theorem mw_634 : (Jvm.Cond.selects "LineSorter$Runs" ({ cls := "LineSorter$Runs", name := "makeRuns", desc := "(II)V" } : Jvm.MethodName) ({ cls := "LineSorter$Runs", name := "makeRuns", desc := "(II)V" } : Jvm.MethodName)) ∈ lw_tbl := mq_3 (List.mem_of_getElem? (i := 154) rfl)
theorem mw_635 : (Jvm.Cond.code ({ cls := "LineSorter$Runs", name := "makeRuns", desc := "(II)V" } : Jvm.MethodName) prog_8_method_2_code (9 : Nat) (Option.none : Option Jvm.ClassFile.FieldType)) ∈ lw_tbl := mq_3 (List.mem_of_getElem? (i := 155) rfl)
theorem mw_636 : (Jvm.Cond.methodLink "LineSorter$Runs" (39 : Nat) ({ cls := "java/lang/Math", name := "min", desc := "(II)I" } : Jvm.MethodName)) ∈ lw_tbl := mq_3 (List.mem_of_getElem? (i := 156) rfl)
theorem mw_637 : (Jvm.Cond.methodLink "LineSorter$Runs" (45 : Nat) ({ cls := "LineSorter$Heap", name := "clear", desc := "()V" } : Jvm.MethodName)) ∈ lw_tbl := mq_3 (List.mem_of_getElem? (i := 157) rfl)
theorem mw_638 : (Jvm.Cond.instanceMethod ({ cls := "LineSorter$Heap", name := "clear", desc := "()V" } : Jvm.MethodName)) ∈ lw_tbl := mq_3 (List.mem_of_getElem? (i := 158) rfl)
theorem mw_639 : (Jvm.Cond.selects "LineSorter$Heap" ({ cls := "LineSorter$Heap", name := "clear", desc := "()V" } : Jvm.MethodName) ({ cls := "LineSorter$Heap", name := "clear", desc := "()V" } : Jvm.MethodName)) ∈ lw_tbl := mq_3 (List.mem_of_getElem? (i := 159) rfl)
theorem mw_640 : (Jvm.Cond.code ({ cls := "LineSorter$Heap", name := "clear", desc := "()V" } : Jvm.MethodName) prog_2_method_2_code (1 : Nat) (Option.none : Option Jvm.ClassFile.FieldType)) ∈ lw_tbl := mq_3 (List.mem_of_getElem? (i := 160) rfl)
theorem mw_641 : (Jvm.Cond.methodLink "LineSorter$Runs" (50 : Nat) ({ cls := "LineSorter$Ranking", name := "rankOf", desc := "(I)I" } : Jvm.MethodName)) ∈ lw_tbl := mq_3 (List.mem_of_getElem? (i := 161) rfl)
theorem mw_642 : (Jvm.Cond.instanceMethod ({ cls := "LineSorter$Ranking", name := "rankOf", desc := "(I)I" } : Jvm.MethodName)) ∈ lw_tbl := mq_3 (List.mem_of_getElem? (i := 162) rfl)
theorem mw_643 : (Jvm.Cond.selects "LineSorter$Ranking" ({ cls := "LineSorter$Ranking", name := "rankOf", desc := "(I)I" } : Jvm.MethodName) ({ cls := "LineSorter$Ranking", name := "rankOf", desc := "(I)I" } : Jvm.MethodName)) ∈ lw_tbl := mq_3 (List.mem_of_getElem? (i := 163) rfl)
theorem mw_644 : (Jvm.Cond.code ({ cls := "LineSorter$Ranking", name := "rankOf", desc := "(I)I" } : Jvm.MethodName) prog_7_method_3_code (2 : Nat) (Option.some Jvm.ClassFile.FieldType.int)) ∈ lw_tbl := mq_3 (List.mem_of_getElem? (i := 164) rfl)
theorem mw_645 : (Jvm.Cond.methodLink "LineSorter$Runs" (56 : Nat) ({ cls := "LineSorter$Heap", name := "put", desc := "(I)V" } : Jvm.MethodName)) ∈ lw_tbl := mq_3 (List.mem_of_getElem? (i := 165) rfl)
theorem mw_646 : (Jvm.Cond.instanceMethod ({ cls := "LineSorter$Heap", name := "put", desc := "(I)V" } : Jvm.MethodName)) ∈ lw_tbl := mq_3 (List.mem_of_getElem? (i := 166) rfl)
theorem mw_647 : (Jvm.Cond.selects "LineSorter$Heap" ({ cls := "LineSorter$Heap", name := "put", desc := "(I)V" } : Jvm.MethodName) ({ cls := "LineSorter$Heap", name := "put", desc := "(I)V" } : Jvm.MethodName)) ∈ lw_tbl := mq_3 (List.mem_of_getElem? (i := 167) rfl)
theorem mw_648 : (Jvm.Cond.code ({ cls := "LineSorter$Heap", name := "put", desc := "(I)V" } : Jvm.MethodName) prog_2_method_3_code (3 : Nat) (Option.none : Option Jvm.ClassFile.FieldType)) ∈ lw_tbl := mq_3 (List.mem_of_getElem? (i := 168) rfl)
theorem mw_649 : (Jvm.Cond.methodLink "LineSorter$Runs" (60 : Nat) ({ cls := "LineSorter$Heap", name := "takeLeast", desc := "()I" } : Jvm.MethodName)) ∈ lw_tbl := mq_3 (List.mem_of_getElem? (i := 169) rfl)
theorem mw_650 : (Jvm.Cond.instanceMethod ({ cls := "LineSorter$Heap", name := "takeLeast", desc := "()I" } : Jvm.MethodName)) ∈ lw_tbl := mq_3 (List.mem_of_getElem? (i := 170) rfl)
theorem mw_651 : (Jvm.Cond.selects "LineSorter$Heap" ({ cls := "LineSorter$Heap", name := "takeLeast", desc := "()I" } : Jvm.MethodName) ({ cls := "LineSorter$Heap", name := "takeLeast", desc := "()I" } : Jvm.MethodName)) ∈ lw_tbl := mq_3 (List.mem_of_getElem? (i := 171) rfl)
theorem mw_652 : (Jvm.Cond.code ({ cls := "LineSorter$Heap", name := "takeLeast", desc := "()I" } : Jvm.MethodName) prog_2_method_4_code (2 : Nat) (Option.some Jvm.ClassFile.FieldType.int)) ∈ lw_tbl := mq_3 (List.mem_of_getElem? (i := 172) rfl)
theorem mw_653 : (Jvm.Cond.methodLink "LineSorter$Heap" (19 : Nat) ({ cls := "LineSorter$Heap", name := "sinkFromTop", desc := "(I)V" } : Jvm.MethodName)) ∈ lw_tbl := mq_3 (List.mem_of_getElem? (i := 173) rfl)
theorem mw_655 : (Jvm.Cond.instanceMethod ({ cls := "LineSorter$Heap", name := "sinkFromTop", desc := "(I)V" } : Jvm.MethodName)) ∈ lw_tbl := mq_3 (List.mem_of_getElem? (i := 175) rfl)
theorem mw_656 : (Jvm.Cond.code ({ cls := "LineSorter$Heap", name := "sinkFromTop", desc := "(I)V" } : Jvm.MethodName) prog_2_method_5_code (4 : Nat) (Option.none : Option Jvm.ClassFile.FieldType)) ∈ lw_tbl := mq_3 (List.mem_of_getElem? (i := 176) rfl)
theorem mw_657 : (Jvm.Cond.methodLink "LineSorter$Runs" (64 : Nat) ({ cls := "LineSorter$Runs", name := "addLineToRun", desc := "(I)V" } : Jvm.MethodName)) ∈ lw_tbl := mq_3 (List.mem_of_getElem? (i := 177) rfl)
theorem mw_659 : (Jvm.Cond.instanceMethod ({ cls := "LineSorter$Runs", name := "addLineToRun", desc := "(I)V" } : Jvm.MethodName)) ∈ lw_tbl := mq_3 (List.mem_of_getElem? (i := 179) rfl)
theorem mw_660 : (Jvm.Cond.code ({ cls := "LineSorter$Runs", name := "addLineToRun", desc := "(I)V" } : Jvm.MethodName) prog_8_method_3_code (2 : Nat) (Option.none : Option Jvm.ClassFile.FieldType)) ∈ lw_tbl := mq_3 (List.mem_of_getElem? (i := 180) rfl)
theorem mw_661 : (Jvm.Cond.methodLink "LineSorter" (187 : Nat) ({ cls := "LineSorter$Runs", name := "countMerges", desc := "(I)V" } : Jvm.MethodName)) ∈ lw_tbl := mq_3 (List.mem_of_getElem? (i := 181) rfl)
theorem mw_662 : (Jvm.Cond.instanceMethod ({ cls := "LineSorter$Runs", name := "countMerges", desc := "(I)V" } : Jvm.MethodName)) ∈ lw_tbl := mq_3 (List.mem_of_getElem? (i := 182) rfl)
theorem mw_663 : (Jvm.Cond.selects "LineSorter$Runs" ({ cls := "LineSorter$Runs", name := "countMerges", desc := "(I)V" } : Jvm.MethodName) ({ cls := "LineSorter$Runs", name := "countMerges", desc := "(I)V" } : Jvm.MethodName)) ∈ lw_tbl := mq_3 (List.mem_of_getElem? (i := 183) rfl)
theorem mw_664 : (Jvm.Cond.code ({ cls := "LineSorter$Runs", name := "countMerges", desc := "(I)V" } : Jvm.MethodName) prog_8_method_4_code (7 : Nat) (Option.none : Option Jvm.ClassFile.FieldType)) ∈ lw_tbl := mq_3 (List.mem_of_getElem? (i := 184) rfl)
theorem mw_665 : (Jvm.Cond.methodLink "LineSorter$Runs" (67 : Nat) ({ cls := "java/lang/System", name := "arraycopy", desc := "(Ljava/lang/Object;ILjava/lang/Object;II)V" } : Jvm.MethodName)) ∈ lw_tbl := mq_3 (List.mem_of_getElem? (i := 185) rfl)
theorem mw_666 : (Jvm.Cond.methodLink "LineSorter" (190 : Nat) ({ cls := "LineSorter$Ranking", name := "lineAt", desc := "(I)I" } : Jvm.MethodName)) ∈ lw_tbl := mq_3 (List.mem_of_getElem? (i := 186) rfl)
theorem mw_667 : (Jvm.Cond.instanceMethod ({ cls := "LineSorter$Ranking", name := "lineAt", desc := "(I)I" } : Jvm.MethodName)) ∈ lw_tbl := mq_3 (List.mem_of_getElem? (i := 187) rfl)
theorem mw_668 : (Jvm.Cond.selects "LineSorter$Ranking" ({ cls := "LineSorter$Ranking", name := "lineAt", desc := "(I)I" } : Jvm.MethodName) ({ cls := "LineSorter$Ranking", name := "lineAt", desc := "(I)I" } : Jvm.MethodName)) ∈ lw_tbl := mq_3 (List.mem_of_getElem? (i := 188) rfl)
theorem mw_669 : (Jvm.Cond.code ({ cls := "LineSorter$Ranking", name := "lineAt", desc := "(I)I" } : Jvm.MethodName) prog_7_method_4_code (2 : Nat) (Option.some Jvm.ClassFile.FieldType.int)) ∈ lw_tbl := mq_3 (List.mem_of_getElem? (i := 189) rfl)
theorem mw_670 : (Jvm.Cond.methodLink "LineSorter" (193 : Nat) ({ cls := "LineSorter", name := "addToResult", desc := "(I)V" } : Jvm.MethodName)) ∈ lw_tbl := mq_3 (List.mem_of_getElem? (i := 190) rfl)
theorem mw_672 : (Jvm.Cond.instanceMethod ({ cls := "LineSorter", name := "addToResult", desc := "(I)V" } : Jvm.MethodName)) ∈ lw_tbl := mq_3 (List.mem_of_getElem? (i := 192) rfl)
theorem mw_673 : (Jvm.Cond.code ({ cls := "LineSorter", name := "addToResult", desc := "(I)V" } : Jvm.MethodName) prog_1_method_20_code (3 : Nat) (Option.none : Option Jvm.ClassFile.FieldType)) ∈ lw_tbl := mq_3 (List.mem_of_getElem? (i := 193) rfl)
theorem mw_674 : (Jvm.Cond.methodLink "LineSorterLaw" (113 : Nat) ({ cls := "LineSorterLaw", name := "merge", desc := "(LLineSorter;I[J)I" } : Jvm.MethodName)) ∈ lw_tbl := mq_3 (List.mem_of_getElem? (i := 194) rfl)
theorem mw_677 : (Jvm.Cond.methodLink "LineSorterLaw" (51 : Nat) ({ cls := "LineSorter", name := "merge", desc := "(I)I" } : Jvm.MethodName)) ∈ lw_tbl := mq_3 (List.mem_of_getElem? (i := 197) rfl)
theorem mw_678 : (Jvm.Cond.instanceMethod ({ cls := "LineSorter", name := "merge", desc := "(I)I" } : Jvm.MethodName)) ∈ lw_tbl := mq_3 (List.mem_of_getElem? (i := 198) rfl)
theorem mw_679 : (Jvm.Cond.selects "LineSorter" ({ cls := "LineSorter", name := "merge", desc := "(I)I" } : Jvm.MethodName) ({ cls := "LineSorter", name := "merge", desc := "(I)I" } : Jvm.MethodName)) ∈ lw_tbl := mq_3 (List.mem_of_getElem? (i := 199) rfl)
theorem mw_680 : (Jvm.Cond.code ({ cls := "LineSorter", name := "merge", desc := "(I)I" } : Jvm.MethodName) prog_1_method_14_code (6 : Nat) (Option.some Jvm.ClassFile.FieldType.int)) ∈ lw_tbl := mq_3 (List.mem_of_getElem? (i := 200) rfl)
theorem mw_682 : (Jvm.Cond.methodLink "LineSorter" (204 : Nat) ({ cls := "LineSorter$Heap", name := "clear", desc := "()V" } : Jvm.MethodName)) ∈ lw_tbl := mq_3 (List.mem_of_getElem? (i := 202) rfl)
theorem mw_683 : (Jvm.Cond.methodLink "LineSorter" (207 : Nat) ({ cls := "LineSorter$Ranking", name := "rankOf", desc := "(I)I" } : Jvm.MethodName)) ∈ lw_tbl := mq_3 (List.mem_of_getElem? (i := 203) rfl)
theorem mw_684 : (Jvm.Cond.methodLink "LineSorter" (210 : Nat) ({ cls := "LineSorter$Heap", name := "put", desc := "(I)V" } : Jvm.MethodName)) ∈ lw_tbl := mq_3 (List.mem_of_getElem? (i := 204) rfl)
theorem mw_685 : (Jvm.Cond.methodLink "LineSorter" (213 : Nat) ({ cls := "LineSorter$Heap", name := "takeLeast", desc := "()I" } : Jvm.MethodName)) ∈ lw_tbl := mq_3 (List.mem_of_getElem? (i := 205) rfl)
theorem mw_686 : (Jvm.Cond.methodLink "LineSorterLaw" (129 : Nat) ({ cls := "LineSorterLaw", name := "about", desc := "(LLineSorter;I[J)I" } : Jvm.MethodName)) ∈ lw_tbl := mq_3 (List.mem_of_getElem? (i := 206) rfl)
theorem mw_689 : (Jvm.Cond.methodLink "LineSorterLaw" (55 : Nat) ({ cls := "LineSorter", name := "about", desc := "(I)I" } : Jvm.MethodName)) ∈ lw_tbl := mq_3 (List.mem_of_getElem? (i := 209) rfl)
theorem mw_690 : (Jvm.Cond.instanceMethod ({ cls := "LineSorter", name := "about", desc := "(I)I" } : Jvm.MethodName)) ∈ lw_tbl := mq_3 (List.mem_of_getElem? (i := 210) rfl)
theorem mw_691 : (Jvm.Cond.selects "LineSorter" ({ cls := "LineSorter", name := "about", desc := "(I)I" } : Jvm.MethodName) ({ cls := "LineSorter", name := "about", desc := "(I)I" } : Jvm.MethodName)) ∈ lw_tbl := mq_3 (List.mem_of_getElem? (i := 211) rfl)
theorem mw_692 : (Jvm.Cond.code ({ cls := "LineSorter", name := "about", desc := "(I)I" } : Jvm.MethodName) prog_1_method_18_code (2 : Nat) (Option.some Jvm.ClassFile.FieldType.int)) ∈ lw_tbl := mq_3 (List.mem_of_getElem? (i := 212) rfl)
theorem mw_694 : (Jvm.Cond.classLink "LineSorterLaw" (59 : Nat) "LineSorterModel") ∈ lw_tbl := mq_3 (List.mem_of_getElem? (i := 214) rfl)
theorem mw_695 : (Jvm.Cond.instantiable "LineSorterModel" (32 : Nat)) ∈ lw_tbl := mq_3 (List.mem_of_getElem? (i := 215) rfl)
theorem mw_696 : (Jvm.Cond.methodLink "LineSorterLaw" (61 : Nat) ({ cls := "LineSorterModel", name := "<init>", desc := "()V" } : Jvm.MethodName)) ∈ lw_tbl := mq_3 (List.mem_of_getElem? (i := 216) rfl)
theorem mw_697 : (Jvm.Cond.instanceMethod ({ cls := "LineSorterModel", name := "<init>", desc := "()V" } : Jvm.MethodName)) ∈ lw_tbl := mq_3 (List.mem_of_getElem? (i := 217) rfl)
theorem mw_698 : (Jvm.Cond.code ({ cls := "LineSorterModel", name := "<init>", desc := "()V" } : Jvm.MethodName) prog_11_method_1_code (1 : Nat) (Option.none : Option Jvm.ClassFile.FieldType)) ∈ lw_tbl := mq_3 (List.mem_of_getElem? (i := 218) rfl)
theorem mw_699 : (Jvm.Cond.methodLink "LineSorterModel" (1 : Nat) ({ cls := "java/lang/Object", name := "<init>", desc := "()V" } : Jvm.MethodName)) ∈ lw_tbl := mq_3 (List.mem_of_getElem? (i := 219) rfl)
theorem mw_700 : (Jvm.Cond.fieldLink "LineSorterModel" (7 : Nat) "LineSorterModel" "text" "[B") ∈ lw_tbl := mq_3 (List.mem_of_getElem? (i := 220) rfl)
theorem mw_701 : (Jvm.Cond.fieldLink "LineSorterModel" (60 : Nat) "LineSorterModel" "length" "I") ∈ lw_tbl := mq_3 (List.mem_of_getElem? (i := 221) rfl)
theorem mw_702 : (Jvm.Cond.fieldLink "LineSorterModel" (13 : Nat) "LineSorterModel" "starts" "[I") ∈ lw_tbl := mq_3 (List.mem_of_getElem? (i := 222) rfl)
theorem mw_703 : (Jvm.Cond.fieldLink "LineSorterModel" (78 : Nat) "LineSorterModel" "lines" "I") ∈ lw_tbl := mq_3 (List.mem_of_getElem? (i := 223) rfl)
theorem mw_704 : (Jvm.Cond.fieldLink "LineSorterModel" (63 : Nat) "LineSorterModel" "split" "Z") ∈ lw_tbl := mq_3 (List.mem_of_getElem? (i := 224) rfl)
theorem mw_705 : (Jvm.Cond.fieldLink "LineSorterModel" (85 : Nat) "LineSorterModel" "all" "I") ∈ lw_tbl := mq_3 (List.mem_of_getElem? (i := 225) rfl)
theorem mw_706 : (Jvm.Cond.fieldLink "LineSorterModel" (88 : Nat) "LineSorterModel" "stable" "Z") ∈ lw_tbl := mq_3 (List.mem_of_getElem? (i := 226) rfl)
theorem mw_707 : (Jvm.Cond.fieldLink "LineSorterModel" (91 : Nat) "LineSorterModel" "once" "Z") ∈ lw_tbl := mq_3 (List.mem_of_getElem? (i := 227) rfl)
theorem mw_708 : (Jvm.Cond.fieldLink "LineSorterModel" (17 : Nat) "LineSorterModel" "separator" "I") ∈ lw_tbl := mq_3 (List.mem_of_getElem? (i := 228) rfl)
theorem mw_709 : (Jvm.Cond.fieldLink "LineSorterModel" (21 : Nat) "LineSorterModel" "keys" "[I") ∈ lw_tbl := mq_3 (List.mem_of_getElem? (i := 229) rfl)
theorem mw_710 : (Jvm.Cond.fieldLink "LineSorterModel" (94 : Nat) "LineSorterModel" "keyCount" "I") ∈ lw_tbl := mq_3 (List.mem_of_getElem? (i := 230) rfl)
theorem mw_711 : (Jvm.Cond.fieldLink "LineSorterModel" (24 : Nat) "LineSorterModel" "memory" "I") ∈ lw_tbl := mq_3 (List.mem_of_getElem? (i := 231) rfl)
theorem mw_712 : (Jvm.Cond.fieldLink "LineSorterModel" (27 : Nat) "LineSorterModel" "ways" "I") ∈ lw_tbl := mq_3 (List.mem_of_getElem? (i := 232) rfl)
theorem mw_713 : (Jvm.Cond.fieldLink "LineSorterModel" (30 : Nat) "LineSorterModel" "begins" "[I") ∈ lw_tbl := mq_3 (List.mem_of_getElem? (i := 233) rfl)
theorem mw_714 : (Jvm.Cond.fieldLink "LineSorterModel" (33 : Nat) "LineSorterModel" "ends" "[I") ∈ lw_tbl := mq_3 (List.mem_of_getElem? (i := 234) rfl)
theorem mw_715 : (Jvm.Cond.fieldLink "LineSorterModel" (126 : Nat) "LineSorterModel" "held" "Z") ∈ lw_tbl := mq_3 (List.mem_of_getElem? (i := 235) rfl)
theorem mw_716 : (Jvm.Cond.fieldLink "LineSorterModel" (36 : Nat) "LineSorterModel" "result" "[I") ∈ lw_tbl := mq_3 (List.mem_of_getElem? (i := 236) rfl)
theorem mw_717 : (Jvm.Cond.fieldLink "LineSorterModel" (67 : Nat) "LineSorterModel" "results" "I") ∈ lw_tbl := mq_3 (List.mem_of_getElem? (i := 237) rfl)
theorem mw_718 : (Jvm.Cond.fieldLink "LineSorterModel" (39 : Nat) "LineSorterModel" "rows" "[I") ∈ lw_tbl := mq_3 (List.mem_of_getElem? (i := 238) rfl)
theorem mw_719 : (Jvm.Cond.fieldLink "LineSorterModel" (42 : Nat) "LineSorterModel" "sizes" "[I") ∈ lw_tbl := mq_3 (List.mem_of_getElem? (i := 239) rfl)
theorem mw_720 : (Jvm.Cond.fieldLink "LineSorterModel" (45 : Nat) "LineSorterModel" "other" "[I") ∈ lw_tbl := mq_4 (List.mem_of_getElem? (i := 0) rfl)
theorem mw_721 : (Jvm.Cond.fieldLink "LineSorterModel" (194 : Nat) "LineSorterModel" "runs" "I") ∈ lw_tbl := mq_4 (List.mem_of_getElem? (i := 1) rfl)
theorem mw_722 : (Jvm.Cond.fieldLink "LineSorterModel" (48 : Nat) "LineSorterModel" "made" "[I") ∈ lw_tbl := mq_4 (List.mem_of_getElem? (i := 2) rfl)
theorem mw_723 : (Jvm.Cond.fieldLink "LineSorterModel" (215 : Nat) "LineSorterModel" "madeCount" "I") ∈ lw_tbl := mq_4 (List.mem_of_getElem? (i := 3) rfl)
theorem mw_724 : (Jvm.Cond.fieldLink "LineSorterModel" (203 : Nat) "LineSorterModel" "merges" "I") ∈ lw_tbl := mq_4 (List.mem_of_getElem? (i := 4) rfl)
theorem mw_725 : (Jvm.Cond.fieldLink "LineSorterModel" (206 : Nat) "LineSorterModel" "moved" "I") ∈ lw_tbl := mq_4 (List.mem_of_getElem? (i := 5) rfl)
theorem mw_726 : (Jvm.Cond.fieldLink "LineSorterModel" (221 : Nat) "LineSorterModel" "gone" "I") ∈ lw_tbl := mq_4 (List.mem_of_getElem? (i := 6) rfl)
theorem mw_727 : (Jvm.Cond.fieldLink "LineSorterModel" (51 : Nat) "LineSorterModel" "inMemory" "[I") ∈ lw_tbl := mq_4 (List.mem_of_getElem? (i := 7) rfl)
theorem mw_728 : (Jvm.Cond.fieldLink "LineSorterModel" (104 : Nat) "LineSorterModel" "fieldAt" "I") ∈ lw_tbl := mq_4 (List.mem_of_getElem? (i := 8) rfl)
theorem mw_729 : (Jvm.Cond.fieldLink "LineSorterModel" (107 : Nat) "LineSorterModel" "fieldEnd" "I") ∈ lw_tbl := mq_4 (List.mem_of_getElem? (i := 9) rfl)
theorem mw_730 : (Jvm.Cond.fieldLink "LineSorterModel" (57 : Nat) "LineSorterModel" "thrown" "I") ∈ lw_tbl := mq_4 (List.mem_of_getElem? (i := 10) rfl)
theorem mw_731 : (Jvm.Cond.fieldLink "LineSorterModel" (54 : Nat) "LineSorterModel" "taken" "[I") ∈ lw_tbl := mq_4 (List.mem_of_getElem? (i := 11) rfl)
theorem mw_732 : (Jvm.Cond.laysFinal "LineSorterModel" "LineSorterModel" "text" "[B") ∈ lw_tbl := mq_4 (List.mem_of_getElem? (i := 12) rfl)
theorem mw_734 : (Jvm.Cond.lays "LineSorterModel" "LineSorterModel" "length" "I") ∈ lw_tbl := mq_4 (List.mem_of_getElem? (i := 14) rfl)
theorem mw_736 : (Jvm.Cond.laysFinal "LineSorterModel" "LineSorterModel" "starts" "[I") ∈ lw_tbl := mq_4 (List.mem_of_getElem? (i := 16) rfl)
theorem mw_738 : (Jvm.Cond.lays "LineSorterModel" "LineSorterModel" "lines" "I") ∈ lw_tbl := mq_4 (List.mem_of_getElem? (i := 18) rfl)
theorem mw_740 : (Jvm.Cond.lays "LineSorterModel" "LineSorterModel" "split" "Z") ∈ lw_tbl := mq_4 (List.mem_of_getElem? (i := 20) rfl)
theorem mw_742 : (Jvm.Cond.lays "LineSorterModel" "LineSorterModel" "all" "I") ∈ lw_tbl := mq_4 (List.mem_of_getElem? (i := 22) rfl)
theorem mw_744 : (Jvm.Cond.lays "LineSorterModel" "LineSorterModel" "stable" "Z") ∈ lw_tbl := mq_4 (List.mem_of_getElem? (i := 24) rfl)
theorem mw_746 : (Jvm.Cond.lays "LineSorterModel" "LineSorterModel" "once" "Z") ∈ lw_tbl := mq_4 (List.mem_of_getElem? (i := 26) rfl)
theorem mw_748 : (Jvm.Cond.lays "LineSorterModel" "LineSorterModel" "separator" "I") ∈ lw_tbl := mq_4 (List.mem_of_getElem? (i := 28) rfl)
theorem mw_750 : (Jvm.Cond.laysFinal "LineSorterModel" "LineSorterModel" "keys" "[I") ∈ lw_tbl := mq_4 (List.mem_of_getElem? (i := 30) rfl)
theorem mw_752 : (Jvm.Cond.lays "LineSorterModel" "LineSorterModel" "keyCount" "I") ∈ lw_tbl := mq_4 (List.mem_of_getElem? (i := 32) rfl)
theorem mw_754 : (Jvm.Cond.lays "LineSorterModel" "LineSorterModel" "memory" "I") ∈ lw_tbl := mq_4 (List.mem_of_getElem? (i := 34) rfl)
theorem mw_756 : (Jvm.Cond.lays "LineSorterModel" "LineSorterModel" "ways" "I") ∈ lw_tbl := mq_4 (List.mem_of_getElem? (i := 36) rfl)
theorem mw_758 : (Jvm.Cond.laysFinal "LineSorterModel" "LineSorterModel" "begins" "[I") ∈ lw_tbl := mq_4 (List.mem_of_getElem? (i := 38) rfl)
theorem mw_760 : (Jvm.Cond.laysFinal "LineSorterModel" "LineSorterModel" "ends" "[I") ∈ lw_tbl := mq_4 (List.mem_of_getElem? (i := 40) rfl)
theorem mw_762 : (Jvm.Cond.lays "LineSorterModel" "LineSorterModel" "held" "Z") ∈ lw_tbl := mq_4 (List.mem_of_getElem? (i := 42) rfl)
theorem mw_764 : (Jvm.Cond.laysFinal "LineSorterModel" "LineSorterModel" "result" "[I") ∈ lw_tbl := mq_4 (List.mem_of_getElem? (i := 44) rfl)
theorem mw_766 : (Jvm.Cond.lays "LineSorterModel" "LineSorterModel" "results" "I") ∈ lw_tbl := mq_4 (List.mem_of_getElem? (i := 46) rfl)
theorem mw_768 : (Jvm.Cond.laysFinal "LineSorterModel" "LineSorterModel" "rows" "[I") ∈ lw_tbl := mq_4 (List.mem_of_getElem? (i := 48) rfl)
theorem mw_770 : (Jvm.Cond.laysFinal "LineSorterModel" "LineSorterModel" "sizes" "[I") ∈ lw_tbl := mq_4 (List.mem_of_getElem? (i := 50) rfl)
theorem mw_772 : (Jvm.Cond.laysFinal "LineSorterModel" "LineSorterModel" "other" "[I") ∈ lw_tbl := mq_4 (List.mem_of_getElem? (i := 52) rfl)
theorem mw_774 : (Jvm.Cond.lays "LineSorterModel" "LineSorterModel" "runs" "I") ∈ lw_tbl := mq_4 (List.mem_of_getElem? (i := 54) rfl)
theorem mw_776 : (Jvm.Cond.laysFinal "LineSorterModel" "LineSorterModel" "made" "[I") ∈ lw_tbl := mq_4 (List.mem_of_getElem? (i := 56) rfl)
theorem mw_778 : (Jvm.Cond.lays "LineSorterModel" "LineSorterModel" "madeCount" "I") ∈ lw_tbl := mq_4 (List.mem_of_getElem? (i := 58) rfl)
theorem mw_780 : (Jvm.Cond.lays "LineSorterModel" "LineSorterModel" "merges" "I") ∈ lw_tbl := mq_4 (List.mem_of_getElem? (i := 60) rfl)
theorem mw_782 : (Jvm.Cond.lays "LineSorterModel" "LineSorterModel" "moved" "I") ∈ lw_tbl := mq_4 (List.mem_of_getElem? (i := 62) rfl)
theorem mw_784 : (Jvm.Cond.lays "LineSorterModel" "LineSorterModel" "gone" "I") ∈ lw_tbl := mq_4 (List.mem_of_getElem? (i := 64) rfl)
theorem mw_786 : (Jvm.Cond.laysFinal "LineSorterModel" "LineSorterModel" "inMemory" "[I") ∈ lw_tbl := mq_4 (List.mem_of_getElem? (i := 66) rfl)
theorem mw_788 : (Jvm.Cond.lays "LineSorterModel" "LineSorterModel" "fieldAt" "I") ∈ lw_tbl := mq_4 (List.mem_of_getElem? (i := 68) rfl)
theorem mw_790 : (Jvm.Cond.lays "LineSorterModel" "LineSorterModel" "fieldEnd" "I") ∈ lw_tbl := mq_4 (List.mem_of_getElem? (i := 70) rfl)
theorem mw_792 : (Jvm.Cond.lays "LineSorterModel" "LineSorterModel" "thrown" "I") ∈ lw_tbl := mq_4 (List.mem_of_getElem? (i := 72) rfl)
theorem mw_794 : (Jvm.Cond.laysFinal "LineSorterModel" "LineSorterModel" "taken" "[I") ∈ lw_tbl := mq_4 (List.mem_of_getElem? (i := 74) rfl)
theorem mw_797 : (Jvm.Cond.methodLink "LineSorterLaw" (68 : Nat) ({ cls := "LineSorterModel", name := "thrown", desc := "()I" } : Jvm.MethodName)) ∈ lw_tbl := mq_4 (List.mem_of_getElem? (i := 77) rfl)
theorem mw_798 : (Jvm.Cond.instanceMethod ({ cls := "LineSorterModel", name := "thrown", desc := "()I" } : Jvm.MethodName)) ∈ lw_tbl := mq_4 (List.mem_of_getElem? (i := 78) rfl)
theorem mw_799 : (Jvm.Cond.selects "LineSorterModel" ({ cls := "LineSorterModel", name := "thrown", desc := "()I" } : Jvm.MethodName) ({ cls := "LineSorterModel", name := "thrown", desc := "()I" } : Jvm.MethodName)) ∈ lw_tbl := mq_4 (List.mem_of_getElem? (i := 79) rfl)
theorem mw_800 : (Jvm.Cond.code ({ cls := "LineSorterModel", name := "thrown", desc := "()I" } : Jvm.MethodName) prog_11_method_2_code (1 : Nat) (Option.some Jvm.ClassFile.FieldType.int)) ∈ lw_tbl := mq_4 (List.mem_of_getElem? (i := 80) rfl)
theorem mw_801 : (Jvm.Cond.methodLink "LineSorterLaw" (67 : Nat) ({ cls := "LineSorterModel", name := "feed", desc := "(IIIII)I" } : Jvm.MethodName)) ∈ lw_tbl := mq_4 (List.mem_of_getElem? (i := 81) rfl)
theorem mw_802 : (Jvm.Cond.instanceMethod ({ cls := "LineSorterModel", name := "feed", desc := "(IIIII)I" } : Jvm.MethodName)) ∈ lw_tbl := mq_4 (List.mem_of_getElem? (i := 82) rfl)
theorem mw_803 : (Jvm.Cond.selects "LineSorterModel" ({ cls := "LineSorterModel", name := "feed", desc := "(IIIII)I" } : Jvm.MethodName) ({ cls := "LineSorterModel", name := "feed", desc := "(IIIII)I" } : Jvm.MethodName)) ∈ lw_tbl := mq_4 (List.mem_of_getElem? (i := 83) rfl)
theorem mw_804 : (Jvm.Cond.code ({ cls := "LineSorterModel", name := "feed", desc := "(IIIII)I" } : Jvm.MethodName) prog_11_method_5_code (8 : Nat) (Option.some Jvm.ClassFile.FieldType.int)) ∈ lw_tbl := mq_4 (List.mem_of_getElem? (i := 84) rfl)
theorem mw_805 : (Jvm.Cond.methodLink "LineSorterModel" (70 : Nat) ({ cls := "LineSorterModel", name := "fails", desc := "(ZI)Z" } : Jvm.MethodName)) ∈ lw_tbl := mq_4 (List.mem_of_getElem? (i := 85) rfl)
theorem mw_807 : (Jvm.Cond.instanceMethod ({ cls := "LineSorterModel", name := "fails", desc := "(ZI)Z" } : Jvm.MethodName)) ∈ lw_tbl := mq_4 (List.mem_of_getElem? (i := 87) rfl)
theorem mw_808 : (Jvm.Cond.code ({ cls := "LineSorterModel", name := "fails", desc := "(ZI)Z" } : Jvm.MethodName) prog_11_method_3_code (3 : Nat) (Option.some Jvm.ClassFile.FieldType.boolean)) ∈ lw_tbl := mq_4 (List.mem_of_getElem? (i := 88) rfl)
theorem mw_809 : (Jvm.Cond.methodLink "LineSorterModel" (74 : Nat) ({ cls := "LineSorterModel", name := "change", desc := "(I)V" } : Jvm.MethodName)) ∈ lw_tbl := mq_4 (List.mem_of_getElem? (i := 89) rfl)
theorem mw_811 : (Jvm.Cond.instanceMethod ({ cls := "LineSorterModel", name := "change", desc := "(I)V" } : Jvm.MethodName)) ∈ lw_tbl := mq_4 (List.mem_of_getElem? (i := 91) rfl)
theorem mw_812 : (Jvm.Cond.code ({ cls := "LineSorterModel", name := "change", desc := "(I)V" } : Jvm.MethodName) prog_11_method_4_code (2 : Nat) (Option.none : Option Jvm.ClassFile.FieldType)) ∈ lw_tbl := mq_4 (List.mem_of_getElem? (i := 92) rfl)
theorem mw_813 : (Jvm.Cond.methodLink "LineSorterLaw" (74 : Nat) ({ cls := "LineSorterModel", name := "end", desc := "(I)V" } : Jvm.MethodName)) ∈ lw_tbl := mq_4 (List.mem_of_getElem? (i := 93) rfl)
theorem mw_814 : (Jvm.Cond.instanceMethod ({ cls := "LineSorterModel", name := "end", desc := "(I)V" } : Jvm.MethodName)) ∈ lw_tbl := mq_4 (List.mem_of_getElem? (i := 94) rfl)
theorem mw_815 : (Jvm.Cond.selects "LineSorterModel" ({ cls := "LineSorterModel", name := "end", desc := "(I)V" } : Jvm.MethodName) ({ cls := "LineSorterModel", name := "end", desc := "(I)V" } : Jvm.MethodName)) ∈ lw_tbl := mq_4 (List.mem_of_getElem? (i := 95) rfl)
theorem mw_816 : (Jvm.Cond.code ({ cls := "LineSorterModel", name := "end", desc := "(I)V" } : Jvm.MethodName) prog_11_method_6_code (2 : Nat) (Option.none : Option Jvm.ClassFile.FieldType)) ∈ lw_tbl := mq_4 (List.mem_of_getElem? (i := 96) rfl)
theorem mw_817 : (Jvm.Cond.methodLink "LineSorterLaw" (78 : Nat) ({ cls := "LineSorterModel", name := "ways", desc := "(IZZ)V" } : Jvm.MethodName)) ∈ lw_tbl := mq_4 (List.mem_of_getElem? (i := 97) rfl)
theorem mw_818 : (Jvm.Cond.instanceMethod ({ cls := "LineSorterModel", name := "ways", desc := "(IZZ)V" } : Jvm.MethodName)) ∈ lw_tbl := mq_4 (List.mem_of_getElem? (i := 98) rfl)
theorem mw_819 : (Jvm.Cond.selects "LineSorterModel" ({ cls := "LineSorterModel", name := "ways", desc := "(IZZ)V" } : Jvm.MethodName) ({ cls := "LineSorterModel", name := "ways", desc := "(IZZ)V" } : Jvm.MethodName)) ∈ lw_tbl := mq_4 (List.mem_of_getElem? (i := 99) rfl)
theorem mw_820 : (Jvm.Cond.code ({ cls := "LineSorterModel", name := "ways", desc := "(IZZ)V" } : Jvm.MethodName) prog_11_method_11_code (4 : Nat) (Option.none : Option Jvm.ClassFile.FieldType)) ∈ lw_tbl := mq_4 (List.mem_of_getElem? (i := 100) rfl)
theorem mw_821 : (Jvm.Cond.methodLink "LineSorterModel" (81 : Nat) ({ cls := "LineSorterModel", name := "within", desc := "(III)Z" } : Jvm.MethodName)) ∈ lw_tbl := mq_4 (List.mem_of_getElem? (i := 101) rfl)
theorem mw_822 : (Jvm.Cond.static ({ cls := "LineSorterModel", name := "within", desc := "(III)Z" } : Jvm.MethodName)) ∈ lw_tbl := mq_4 (List.mem_of_getElem? (i := 102) rfl)
theorem mw_823 : (Jvm.Cond.code ({ cls := "LineSorterModel", name := "within", desc := "(III)Z" } : Jvm.MethodName) prog_11_method_10_code (3 : Nat) (Option.some Jvm.ClassFile.FieldType.boolean)) ∈ lw_tbl := mq_4 (List.mem_of_getElem? (i := 103) rfl)
theorem mw_824 : (Jvm.Cond.methodLink "LineSorterLaw" (81 : Nat) ({ cls := "LineSorterModel", name := "separator", desc := "(I)V" } : Jvm.MethodName)) ∈ lw_tbl := mq_4 (List.mem_of_getElem? (i := 104) rfl)
theorem mw_825 : (Jvm.Cond.instanceMethod ({ cls := "LineSorterModel", name := "separator", desc := "(I)V" } : Jvm.MethodName)) ∈ lw_tbl := mq_4 (List.mem_of_getElem? (i := 105) rfl)
theorem mw_826 : (Jvm.Cond.selects "LineSorterModel" ({ cls := "LineSorterModel", name := "separator", desc := "(I)V" } : Jvm.MethodName) ({ cls := "LineSorterModel", name := "separator", desc := "(I)V" } : Jvm.MethodName)) ∈ lw_tbl := mq_4 (List.mem_of_getElem? (i := 106) rfl)
theorem mw_827 : (Jvm.Cond.code ({ cls := "LineSorterModel", name := "separator", desc := "(I)V" } : Jvm.MethodName) prog_11_method_12_code (2 : Nat) (Option.none : Option Jvm.ClassFile.FieldType)) ∈ lw_tbl := mq_4 (List.mem_of_getElem? (i := 107) rfl)
theorem mw_828 : (Jvm.Cond.methodLink "LineSorterLaw" (84 : Nat) ({ cls := "LineSorterModel", name := "key", desc := "(IIIII)I" } : Jvm.MethodName)) ∈ lw_tbl := mq_4 (List.mem_of_getElem? (i := 108) rfl)
theorem mw_829 : (Jvm.Cond.instanceMethod ({ cls := "LineSorterModel", name := "key", desc := "(IIIII)I" } : Jvm.MethodName)) ∈ lw_tbl := mq_4 (List.mem_of_getElem? (i := 109) rfl)
theorem mw_830 : (Jvm.Cond.selects "LineSorterModel" ({ cls := "LineSorterModel", name := "key", desc := "(IIIII)I" } : Jvm.MethodName) ({ cls := "LineSorterModel", name := "key", desc := "(IIIII)I" } : Jvm.MethodName)) ∈ lw_tbl := mq_4 (List.mem_of_getElem? (i := 110) rfl)
theorem mw_831 : (Jvm.Cond.code ({ cls := "LineSorterModel", name := "key", desc := "(IIIII)I" } : Jvm.MethodName) prog_11_method_13_code (7 : Nat) (Option.some Jvm.ClassFile.FieldType.int)) ∈ lw_tbl := mq_4 (List.mem_of_getElem? (i := 111) rfl)
theorem mw_832 : (Jvm.Cond.methodLink "LineSorterLaw" (88 : Nat) ({ cls := "LineSorterModel", name := "keyless", desc := "()I" } : Jvm.MethodName)) ∈ lw_tbl := mq_4 (List.mem_of_getElem? (i := 112) rfl)
theorem mw_833 : (Jvm.Cond.instanceMethod ({ cls := "LineSorterModel", name := "keyless", desc := "()I" } : Jvm.MethodName)) ∈ lw_tbl := mq_4 (List.mem_of_getElem? (i := 113) rfl)
theorem mw_834 : (Jvm.Cond.selects "LineSorterModel" ({ cls := "LineSorterModel", name := "keyless", desc := "()I" } : Jvm.MethodName) ({ cls := "LineSorterModel", name := "keyless", desc := "()I" } : Jvm.MethodName)) ∈ lw_tbl := mq_4 (List.mem_of_getElem? (i := 114) rfl)
theorem mw_835 : (Jvm.Cond.code ({ cls := "LineSorterModel", name := "keyless", desc := "()I" } : Jvm.MethodName) prog_11_method_14_code (2 : Nat) (Option.some Jvm.ClassFile.FieldType.int)) ∈ lw_tbl := mq_4 (List.mem_of_getElem? (i := 115) rfl)
theorem mw_836 : (Jvm.Cond.methodLink "LineSorterLaw" (92 : Nat) ({ cls := "LineSorterModel", name := "memory", desc := "(II)V" } : Jvm.MethodName)) ∈ lw_tbl := mq_4 (List.mem_of_getElem? (i := 116) rfl)
theorem mw_837 : (Jvm.Cond.instanceMethod ({ cls := "LineSorterModel", name := "memory", desc := "(II)V" } : Jvm.MethodName)) ∈ lw_tbl := mq_4 (List.mem_of_getElem? (i := 117) rfl)
theorem mw_838 : (Jvm.Cond.selects "LineSorterModel" ({ cls := "LineSorterModel", name := "memory", desc := "(II)V" } : Jvm.MethodName) ({ cls := "LineSorterModel", name := "memory", desc := "(II)V" } : Jvm.MethodName)) ∈ lw_tbl := mq_4 (List.mem_of_getElem? (i := 118) rfl)
theorem mw_839 : (Jvm.Cond.code ({ cls := "LineSorterModel", name := "memory", desc := "(II)V" } : Jvm.MethodName) prog_11_method_15_code (3 : Nat) (Option.none : Option Jvm.ClassFile.FieldType)) ∈ lw_tbl := mq_4 (List.mem_of_getElem? (i := 119) rfl)
theorem mw_840 : (Jvm.Cond.methodLink "LineSorterLaw" (96 : Nat) ({ cls := "LineSorterModel", name := "lines", desc := "()I" } : Jvm.MethodName)) ∈ lw_tbl := mq_4 (List.mem_of_getElem? (i := 120) rfl)
theorem mw_841 : (Jvm.Cond.instanceMethod ({ cls := "LineSorterModel", name := "lines", desc := "()I" } : Jvm.MethodName)) ∈ lw_tbl := mq_4 (List.mem_of_getElem? (i := 121) rfl)
theorem mw_842 : (Jvm.Cond.selects "LineSorterModel" ({ cls := "LineSorterModel", name := "lines", desc := "()I" } : Jvm.MethodName) ({ cls := "LineSorterModel", name := "lines", desc := "()I" } : Jvm.MethodName)) ∈ lw_tbl := mq_4 (List.mem_of_getElem? (i := 122) rfl)
theorem mw_843 : (Jvm.Cond.code ({ cls := "LineSorterModel", name := "lines", desc := "()I" } : Jvm.MethodName) prog_11_method_41_code (1 : Nat) (Option.some Jvm.ClassFile.FieldType.int)) ∈ lw_tbl := mq_4 (List.mem_of_getElem? (i := 123) rfl)
theorem mw_844 : (Jvm.Cond.methodLink "LineSorterModel" (191 : Nat) ({ cls := "LineSorterModel", name := "findLines", desc := "()V" } : Jvm.MethodName)) ∈ lw_tbl := mq_4 (List.mem_of_getElem? (i := 124) rfl)
theorem mw_846 : (Jvm.Cond.instanceMethod ({ cls := "LineSorterModel", name := "findLines", desc := "()V" } : Jvm.MethodName)) ∈ lw_tbl := mq_4 (List.mem_of_getElem? (i := 126) rfl)
theorem mw_847 : (Jvm.Cond.code ({ cls := "LineSorterModel", name := "findLines", desc := "()V" } : Jvm.MethodName) prog_11_method_7_code (2 : Nat) (Option.none : Option Jvm.ClassFile.FieldType)) ∈ lw_tbl := mq_4 (List.mem_of_getElem? (i := 127) rfl)
theorem mw_848 : (Jvm.Cond.methodLink "LineSorterLaw" (100 : Nat) ({ cls := "LineSorterModel", name := "place", desc := "(IIZ)I" } : Jvm.MethodName)) ∈ lw_tbl := mq_4 (List.mem_of_getElem? (i := 128) rfl)
theorem mw_849 : (Jvm.Cond.instanceMethod ({ cls := "LineSorterModel", name := "place", desc := "(IIZ)I" } : Jvm.MethodName)) ∈ lw_tbl := mq_4 (List.mem_of_getElem? (i := 129) rfl)
theorem mw_850 : (Jvm.Cond.selects "LineSorterModel" ({ cls := "LineSorterModel", name := "place", desc := "(IIZ)I" } : Jvm.MethodName) ({ cls := "LineSorterModel", name := "place", desc := "(IIZ)I" } : Jvm.MethodName)) ∈ lw_tbl := mq_4 (List.mem_of_getElem? (i := 130) rfl)
theorem mw_851 : (Jvm.Cond.code ({ cls := "LineSorterModel", name := "place", desc := "(IIZ)I" } : Jvm.MethodName) prog_11_method_42_code (4 : Nat) (Option.some Jvm.ClassFile.FieldType.int)) ∈ lw_tbl := mq_4 (List.mem_of_getElem? (i := 131) rfl)
theorem mw_852 : (Jvm.Cond.methodLink "LineSorterModel" (168 : Nat) ({ cls := "LineSorterModel", name := "keysThere", desc := "()I" } : Jvm.MethodName)) ∈ lw_tbl := mq_4 (List.mem_of_getElem? (i := 132) rfl)
theorem mw_854 : (Jvm.Cond.instanceMethod ({ cls := "LineSorterModel", name := "keysThere", desc := "()I" } : Jvm.MethodName)) ∈ lw_tbl := mq_4 (List.mem_of_getElem? (i := 134) rfl)
theorem mw_855 : (Jvm.Cond.code ({ cls := "LineSorterModel", name := "keysThere", desc := "()I" } : Jvm.MethodName) prog_11_method_16_code (1 : Nat) (Option.some Jvm.ClassFile.FieldType.int)) ∈ lw_tbl := mq_4 (List.mem_of_getElem? (i := 135) rfl)
theorem mw_856 : (Jvm.Cond.methodLink "LineSorterModel" (132 : Nat) ({ cls := "LineSorterModel", name := "keyEnd", desc := "(II)I" } : Jvm.MethodName)) ∈ lw_tbl := mq_4 (List.mem_of_getElem? (i := 136) rfl)
theorem mw_858 : (Jvm.Cond.instanceMethod ({ cls := "LineSorterModel", name := "keyEnd", desc := "(II)I" } : Jvm.MethodName)) ∈ lw_tbl := mq_4 (List.mem_of_getElem? (i := 138) rfl)
theorem mw_859 : (Jvm.Cond.code ({ cls := "LineSorterModel", name := "keyEnd", desc := "(II)I" } : Jvm.MethodName) prog_11_method_22_code (6 : Nat) (Option.some Jvm.ClassFile.FieldType.int)) ∈ lw_tbl := mq_4 (List.mem_of_getElem? (i := 139) rfl)
theorem mw_860 : (Jvm.Cond.methodLink "LineSorterModel" (97 : Nat) ({ cls := "LineSorterModel", name := "endOf", desc := "(I)I" } : Jvm.MethodName)) ∈ lw_tbl := mq_4 (List.mem_of_getElem? (i := 140) rfl)
theorem mw_862 : (Jvm.Cond.instanceMethod ({ cls := "LineSorterModel", name := "endOf", desc := "(I)I" } : Jvm.MethodName)) ∈ lw_tbl := mq_4 (List.mem_of_getElem? (i := 142) rfl)
theorem mw_863 : (Jvm.Cond.code ({ cls := "LineSorterModel", name := "endOf", desc := "(I)I" } : Jvm.MethodName) prog_11_method_9_code (2 : Nat) (Option.some Jvm.ClassFile.FieldType.int)) ∈ lw_tbl := mq_4 (List.mem_of_getElem? (i := 143) rfl)
theorem mw_864 : (Jvm.Cond.methodLink "LineSorterModel" (114 : Nat) ({ cls := "LineSorterModel", name := "keyOf", desc := "(II)I" } : Jvm.MethodName)) ∈ lw_tbl := mq_4 (List.mem_of_getElem? (i := 144) rfl)
theorem mw_866 : (Jvm.Cond.instanceMethod ({ cls := "LineSorterModel", name := "keyOf", desc := "(II)I" } : Jvm.MethodName)) ∈ lw_tbl := mq_4 (List.mem_of_getElem? (i := 146) rfl)
theorem mw_867 : (Jvm.Cond.code ({ cls := "LineSorterModel", name := "keyOf", desc := "(II)I" } : Jvm.MethodName) prog_11_method_17_code (4 : Nat) (Option.some Jvm.ClassFile.FieldType.int)) ∈ lw_tbl := mq_4 (List.mem_of_getElem? (i := 147) rfl)
theorem mw_868 : (Jvm.Cond.methodLink "LineSorterModel" (118 : Nat) ({ cls := "LineSorterModel", name := "find", desc := "(II)Z" } : Jvm.MethodName)) ∈ lw_tbl := mq_4 (List.mem_of_getElem? (i := 148) rfl)
theorem mw_870 : (Jvm.Cond.instanceMethod ({ cls := "LineSorterModel", name := "find", desc := "(II)Z" } : Jvm.MethodName)) ∈ lw_tbl := mq_4 (List.mem_of_getElem? (i := 150) rfl)
theorem mw_871 : (Jvm.Cond.code ({ cls := "LineSorterModel", name := "find", desc := "(II)Z" } : Jvm.MethodName) prog_11_method_19_code (7 : Nat) (Option.some Jvm.ClassFile.FieldType.boolean)) ∈ lw_tbl := mq_4 (List.mem_of_getElem? (i := 151) rfl)
theorem mw_872 : (Jvm.Cond.methodLink "LineSorterModel" (101 : Nat) ({ cls := "LineSorterModel", name := "startOf", desc := "(I)I" } : Jvm.MethodName)) ∈ lw_tbl := mq_4 (List.mem_of_getElem? (i := 152) rfl)
theorem mw_874 : (Jvm.Cond.instanceMethod ({ cls := "LineSorterModel", name := "startOf", desc := "(I)I" } : Jvm.MethodName)) ∈ lw_tbl := mq_4 (List.mem_of_getElem? (i := 154) rfl)
theorem mw_875 : (Jvm.Cond.code ({ cls := "LineSorterModel", name := "startOf", desc := "(I)I" } : Jvm.MethodName) prog_11_method_8_code (2 : Nat) (Option.some Jvm.ClassFile.FieldType.int)) ∈ lw_tbl := mq_4 (List.mem_of_getElem? (i := 155) rfl)
theorem mw_876 : (Jvm.Cond.methodLink "LineSorterModel" (110 : Nat) ({ cls := "LineSorterModel", name := "isBlank", desc := "(I)Z" } : Jvm.MethodName)) ∈ lw_tbl := mq_4 (List.mem_of_getElem? (i := 156) rfl)
theorem mw_878 : (Jvm.Cond.instanceMethod ({ cls := "LineSorterModel", name := "isBlank", desc := "(I)Z" } : Jvm.MethodName)) ∈ lw_tbl := mq_4 (List.mem_of_getElem? (i := 158) rfl)
theorem mw_879 : (Jvm.Cond.code ({ cls := "LineSorterModel", name := "isBlank", desc := "(I)Z" } : Jvm.MethodName) prog_11_method_18_code (2 : Nat) (Option.some Jvm.ClassFile.FieldType.boolean)) ∈ lw_tbl := mq_4 (List.mem_of_getElem? (i := 159) rfl)
theorem mw_880 : (Jvm.Cond.methodLink "LineSorterModel" (122 : Nat) ({ cls := "LineSorterModel", name := "begin", desc := "(IZ)I" } : Jvm.MethodName)) ∈ lw_tbl := mq_4 (List.mem_of_getElem? (i := 160) rfl)
theorem mw_882 : (Jvm.Cond.instanceMethod ({ cls := "LineSorterModel", name := "begin", desc := "(IZ)I" } : Jvm.MethodName)) ∈ lw_tbl := mq_4 (List.mem_of_getElem? (i := 162) rfl)
theorem mw_883 : (Jvm.Cond.code ({ cls := "LineSorterModel", name := "begin", desc := "(IZ)I" } : Jvm.MethodName) prog_11_method_20_code (5 : Nat) (Option.some Jvm.ClassFile.FieldType.int)) ∈ lw_tbl := mq_4 (List.mem_of_getElem? (i := 163) rfl)
theorem mw_884 : (Jvm.Cond.methodLink "LineSorterModel" (129 : Nat) ({ cls := "LineSorterModel", name := "keyBegin", desc := "(II)I" } : Jvm.MethodName)) ∈ lw_tbl := mq_4 (List.mem_of_getElem? (i := 164) rfl)
theorem mw_886 : (Jvm.Cond.instanceMethod ({ cls := "LineSorterModel", name := "keyBegin", desc := "(II)I" } : Jvm.MethodName)) ∈ lw_tbl := mq_4 (List.mem_of_getElem? (i := 166) rfl)
theorem mw_887 : (Jvm.Cond.code ({ cls := "LineSorterModel", name := "keyBegin", desc := "(II)I" } : Jvm.MethodName) prog_11_method_21_code (5 : Nat) (Option.some Jvm.ClassFile.FieldType.int)) ∈ lw_tbl := mq_4 (List.mem_of_getElem? (i := 167) rfl)
theorem mw_888 : (Jvm.Cond.methodLink "LineSorterLaw" (104 : Nat) ({ cls := "LineSorterModel", name := "compare", desc := "(II)I" } : Jvm.MethodName)) ∈ lw_tbl := mq_4 (List.mem_of_getElem? (i := 168) rfl)
theorem mw_889 : (Jvm.Cond.instanceMethod ({ cls := "LineSorterModel", name := "compare", desc := "(II)I" } : Jvm.MethodName)) ∈ lw_tbl := mq_4 (List.mem_of_getElem? (i := 169) rfl)
theorem mw_890 : (Jvm.Cond.selects "LineSorterModel" ({ cls := "LineSorterModel", name := "compare", desc := "(II)I" } : Jvm.MethodName) ({ cls := "LineSorterModel", name := "compare", desc := "(II)I" } : Jvm.MethodName)) ∈ lw_tbl := mq_4 (List.mem_of_getElem? (i := 170) rfl)
theorem mw_891 : (Jvm.Cond.code ({ cls := "LineSorterModel", name := "compare", desc := "(II)I" } : Jvm.MethodName) prog_11_method_43_code (3 : Nat) (Option.some Jvm.ClassFile.FieldType.int)) ∈ lw_tbl := mq_4 (List.mem_of_getElem? (i := 171) rfl)
theorem mw_892 : (Jvm.Cond.methodLink "LineSorterModel" (185 : Nat) ({ cls := "LineSorterModel", name := "byKeys", desc := "(II)I" } : Jvm.MethodName)) ∈ lw_tbl := mq_4 (List.mem_of_getElem? (i := 172) rfl)
theorem mw_894 : (Jvm.Cond.instanceMethod ({ cls := "LineSorterModel", name := "byKeys", desc := "(II)I" } : Jvm.MethodName)) ∈ lw_tbl := mq_4 (List.mem_of_getElem? (i := 174) rfl)
theorem mw_895 : (Jvm.Cond.code ({ cls := "LineSorterModel", name := "byKeys", desc := "(II)I" } : Jvm.MethodName) prog_11_method_38_code (8 : Nat) (Option.some Jvm.ClassFile.FieldType.int)) ∈ lw_tbl := mq_4 (List.mem_of_getElem? (i := 175) rfl)
theorem mw_896 : (Jvm.Cond.methodLink "LineSorterModel" (172 : Nat) ({ cls := "LineSorterModel", name := "from", desc := "(II)I" } : Jvm.MethodName)) ∈ lw_tbl := mq_4 (List.mem_of_getElem? (i := 176) rfl)
theorem mw_898 : (Jvm.Cond.instanceMethod ({ cls := "LineSorterModel", name := "from", desc := "(II)I" } : Jvm.MethodName)) ∈ lw_tbl := mq_4 (List.mem_of_getElem? (i := 178) rfl)
theorem mw_899 : (Jvm.Cond.code ({ cls := "LineSorterModel", name := "from", desc := "(II)I" } : Jvm.MethodName) prog_11_method_23_code (3 : Nat) (Option.some Jvm.ClassFile.FieldType.int)) ∈ lw_tbl := mq_4 (List.mem_of_getElem? (i := 179) rfl)
theorem mw_900 : (Jvm.Cond.methodLink "LineSorterModel" (175 : Nat) ({ cls := "LineSorterModel", name := "to", desc := "(II)I" } : Jvm.MethodName)) ∈ lw_tbl := mq_4 (List.mem_of_getElem? (i := 180) rfl)
theorem mw_902 : (Jvm.Cond.instanceMethod ({ cls := "LineSorterModel", name := "to", desc := "(II)I" } : Jvm.MethodName)) ∈ lw_tbl := mq_4 (List.mem_of_getElem? (i := 182) rfl)
theorem mw_903 : (Jvm.Cond.code ({ cls := "LineSorterModel", name := "to", desc := "(II)I" } : Jvm.MethodName) prog_11_method_24_code (3 : Nat) (Option.some Jvm.ClassFile.FieldType.int)) ∈ lw_tbl := mq_4 (List.mem_of_getElem? (i := 183) rfl)
theorem mw_904 : (Jvm.Cond.methodLink "LineSorterModel" (178 : Nat) ({ cls := "LineSorterModel", name := "numbers", desc := "(IIII)I" } : Jvm.MethodName)) ∈ lw_tbl := mq_4 (List.mem_of_getElem? (i := 184) rfl)
theorem mw_906 : (Jvm.Cond.instanceMethod ({ cls := "LineSorterModel", name := "numbers", desc := "(IIII)I" } : Jvm.MethodName)) ∈ lw_tbl := mq_4 (List.mem_of_getElem? (i := 186) rfl)
theorem mw_907 : (Jvm.Cond.code ({ cls := "LineSorterModel", name := "numbers", desc := "(IIII)I" } : Jvm.MethodName) prog_11_method_37_code (7 : Nat) (Option.some Jvm.ClassFile.FieldType.int)) ∈ lw_tbl := mq_4 (List.mem_of_getElem? (i := 187) rfl)
theorem mw_908 : (Jvm.Cond.methodLink "LineSorterModel" (162 : Nat) ({ cls := "LineSorterModel", name := "sign", desc := "(II)I" } : Jvm.MethodName)) ∈ lw_tbl := mq_4 (List.mem_of_getElem? (i := 188) rfl)
theorem mw_910 : (Jvm.Cond.instanceMethod ({ cls := "LineSorterModel", name := "sign", desc := "(II)I" } : Jvm.MethodName)) ∈ lw_tbl := mq_4 (List.mem_of_getElem? (i := 190) rfl)
theorem mw_911 : (Jvm.Cond.code ({ cls := "LineSorterModel", name := "sign", desc := "(II)I" } : Jvm.MethodName) prog_11_method_36_code (3 : Nat) (Option.some Jvm.ClassFile.FieldType.int)) ∈ lw_tbl := mq_4 (List.mem_of_getElem? (i := 191) rfl)
theorem mw_912 : (Jvm.Cond.methodLink "LineSorterModel" (156 : Nat) ({ cls := "LineSorterModel", name := "wholeAt", desc := "(II)I" } : Jvm.MethodName)) ∈ lw_tbl := mq_4 (List.mem_of_getElem? (i := 192) rfl)
theorem mw_914 : (Jvm.Cond.instanceMethod ({ cls := "LineSorterModel", name := "wholeAt", desc := "(II)I" } : Jvm.MethodName)) ∈ lw_tbl := mq_4 (List.mem_of_getElem? (i := 194) rfl)
theorem mw_915 : (Jvm.Cond.code ({ cls := "LineSorterModel", name := "wholeAt", desc := "(II)I" } : Jvm.MethodName) prog_11_method_31_code (4 : Nat) (Option.some Jvm.ClassFile.FieldType.int)) ∈ lw_tbl := mq_4 (List.mem_of_getElem? (i := 195) rfl)
theorem mw_916 : (Jvm.Cond.methodLink "LineSorterModel" (141 : Nat) ({ cls := "LineSorterModel", name := "behindBlanks", desc := "(II)I" } : Jvm.MethodName)) ∈ lw_tbl := mq_4 (List.mem_of_getElem? (i := 196) rfl)
theorem mw_918 : (Jvm.Cond.instanceMethod ({ cls := "LineSorterModel", name := "behindBlanks", desc := "(II)I" } : Jvm.MethodName)) ∈ lw_tbl := mq_4 (List.mem_of_getElem? (i := 198) rfl)
theorem mw_919 : (Jvm.Cond.code ({ cls := "LineSorterModel", name := "behindBlanks", desc := "(II)I" } : Jvm.MethodName) prog_11_method_29_code (4 : Nat) (Option.some Jvm.ClassFile.FieldType.int)) ∈ lw_tbl := mq_4 (List.mem_of_getElem? (i := 199) rfl)
theorem mw_920 : (Jvm.Cond.methodLink "LineSorterModel" (144 : Nat) ({ cls := "LineSorterModel", name := "isMinus", desc := "(II)Z" } : Jvm.MethodName)) ∈ lw_tbl := mq_4 (List.mem_of_getElem? (i := 200) rfl)
theorem mw_922 : (Jvm.Cond.instanceMethod ({ cls := "LineSorterModel", name := "isMinus", desc := "(II)Z" } : Jvm.MethodName)) ∈ lw_tbl := mq_4 (List.mem_of_getElem? (i := 202) rfl)
theorem mw_923 : (Jvm.Cond.code ({ cls := "LineSorterModel", name := "isMinus", desc := "(II)Z" } : Jvm.MethodName) prog_11_method_30_code (3 : Nat) (Option.some Jvm.ClassFile.FieldType.boolean)) ∈ lw_tbl := mq_4 (List.mem_of_getElem? (i := 203) rfl)
theorem mw_924 : (Jvm.Cond.methodLink "LineSorterModel" (159 : Nat) ({ cls := "LineSorterModel", name := "isZero", desc := "(II)Z" } : Jvm.MethodName)) ∈ lw_tbl := mq_4 (List.mem_of_getElem? (i := 204) rfl)
theorem mw_926 : (Jvm.Cond.instanceMethod ({ cls := "LineSorterModel", name := "isZero", desc := "(II)Z" } : Jvm.MethodName)) ∈ lw_tbl := mq_4 (List.mem_of_getElem? (i := 206) rfl)
theorem mw_927 : (Jvm.Cond.code ({ cls := "LineSorterModel", name := "isZero", desc := "(II)Z" } : Jvm.MethodName) prog_11_method_35_code (4 : Nat) (Option.some Jvm.ClassFile.FieldType.boolean)) ∈ lw_tbl := mq_4 (List.mem_of_getElem? (i := 207) rfl)
theorem mw_928 : (Jvm.Cond.methodLink "LineSorterModel" (147 : Nat) ({ cls := "LineSorterModel", name := "isDigit", desc := "(II)Z" } : Jvm.MethodName)) ∈ lw_tbl := mq_4 (List.mem_of_getElem? (i := 208) rfl)
theorem mw_930 : (Jvm.Cond.instanceMethod ({ cls := "LineSorterModel", name := "isDigit", desc := "(II)Z" } : Jvm.MethodName)) ∈ lw_tbl := mq_4 (List.mem_of_getElem? (i := 210) rfl)
theorem mw_931 : (Jvm.Cond.code ({ cls := "LineSorterModel", name := "isDigit", desc := "(II)Z" } : Jvm.MethodName) prog_11_method_28_code (3 : Nat) (Option.some Jvm.ClassFile.FieldType.boolean)) ∈ lw_tbl := mq_4 (List.mem_of_getElem? (i := 211) rfl)
theorem mw_932 : (Jvm.Cond.methodLink "LineSorterModel" (153 : Nat) ({ cls := "LineSorterModel", name := "partAt", desc := "(II)I" } : Jvm.MethodName)) ∈ lw_tbl := mq_4 (List.mem_of_getElem? (i := 212) rfl)
theorem mw_934 : (Jvm.Cond.instanceMethod ({ cls := "LineSorterModel", name := "partAt", desc := "(II)I" } : Jvm.MethodName)) ∈ lw_tbl := mq_4 (List.mem_of_getElem? (i := 214) rfl)
theorem mw_935 : (Jvm.Cond.code ({ cls := "LineSorterModel", name := "partAt", desc := "(II)I" } : Jvm.MethodName) prog_11_method_33_code (4 : Nat) (Option.some Jvm.ClassFile.FieldType.int)) ∈ lw_tbl := mq_4 (List.mem_of_getElem? (i := 215) rfl)
theorem mw_936 : (Jvm.Cond.methodLink "LineSorterModel" (150 : Nat) ({ cls := "LineSorterModel", name := "behindDigits", desc := "(II)I" } : Jvm.MethodName)) ∈ lw_tbl := mq_4 (List.mem_of_getElem? (i := 216) rfl)
theorem mw_938 : (Jvm.Cond.instanceMethod ({ cls := "LineSorterModel", name := "behindDigits", desc := "(II)I" } : Jvm.MethodName)) ∈ lw_tbl := mq_4 (List.mem_of_getElem? (i := 218) rfl)
theorem mw_939 : (Jvm.Cond.code ({ cls := "LineSorterModel", name := "behindDigits", desc := "(II)I" } : Jvm.MethodName) prog_11_method_32_code (4 : Nat) (Option.some Jvm.ClassFile.FieldType.int)) ∈ lw_tbl := mq_4 (List.mem_of_getElem? (i := 219) rfl)
theorem mw_940 : (Jvm.Cond.methodLink "LineSorterModel" (165 : Nat) ({ cls := "LineSorterModel", name := "sizes", desc := "(IIII)I" } : Jvm.MethodName)) ∈ lw_tbl := mq_4 (List.mem_of_getElem? (i := 220) rfl)
theorem mw_942 : (Jvm.Cond.instanceMethod ({ cls := "LineSorterModel", name := "sizes", desc := "(IIII)I" } : Jvm.MethodName)) ∈ lw_tbl := mq_4 (List.mem_of_getElem? (i := 222) rfl)
theorem mw_943 : (Jvm.Cond.code ({ cls := "LineSorterModel", name := "sizes", desc := "(IIII)I" } : Jvm.MethodName) prog_11_method_34_code (11 : Nat) (Option.some Jvm.ClassFile.FieldType.int)) ∈ lw_tbl := mq_4 (List.mem_of_getElem? (i := 223) rfl)
theorem mw_944 : (Jvm.Cond.methodLink "LineSorterModel" (181 : Nat) ({ cls := "LineSorterModel", name := "bytes", desc := "(IIIII)I" } : Jvm.MethodName)) ∈ lw_tbl := mq_4 (List.mem_of_getElem? (i := 224) rfl)
theorem mw_946 : (Jvm.Cond.instanceMethod ({ cls := "LineSorterModel", name := "bytes", desc := "(IIIII)I" } : Jvm.MethodName)) ∈ lw_tbl := mq_4 (List.mem_of_getElem? (i := 226) rfl)
theorem mw_947 : (Jvm.Cond.code ({ cls := "LineSorterModel", name := "bytes", desc := "(IIIII)I" } : Jvm.MethodName) prog_11_method_27_code (10 : Nat) (Option.some Jvm.ClassFile.FieldType.int)) ∈ lw_tbl := mq_4 (List.mem_of_getElem? (i := 227) rfl)
theorem mw_948 : (Jvm.Cond.methodLink "LineSorterModel" (135 : Nat) ({ cls := "LineSorterModel", name := "counts", desc := "(II)Z" } : Jvm.MethodName)) ∈ lw_tbl := mq_4 (List.mem_of_getElem? (i := 228) rfl)
theorem mw_950 : (Jvm.Cond.instanceMethod ({ cls := "LineSorterModel", name := "counts", desc := "(II)Z" } : Jvm.MethodName)) ∈ lw_tbl := mq_4 (List.mem_of_getElem? (i := 230) rfl)
theorem mw_951 : (Jvm.Cond.code ({ cls := "LineSorterModel", name := "counts", desc := "(II)Z" } : Jvm.MethodName) prog_11_method_25_code (5 : Nat) (Option.some Jvm.ClassFile.FieldType.boolean)) ∈ lw_tbl := mq_4 (List.mem_of_getElem? (i := 231) rfl)
theorem mw_952 : (Jvm.Cond.methodLink "LineSorterModel" (138 : Nat) ({ cls := "LineSorterModel", name := "folded", desc := "(II)I" } : Jvm.MethodName)) ∈ lw_tbl := mq_4 (List.mem_of_getElem? (i := 232) rfl)
theorem mw_954 : (Jvm.Cond.instanceMethod ({ cls := "LineSorterModel", name := "folded", desc := "(II)I" } : Jvm.MethodName)) ∈ lw_tbl := mq_4 (List.mem_of_getElem? (i := 234) rfl)
theorem mw_955 : (Jvm.Cond.code ({ cls := "LineSorterModel", name := "folded", desc := "(II)I" } : Jvm.MethodName) prog_11_method_26_code (4 : Nat) (Option.some Jvm.ClassFile.FieldType.int)) ∈ lw_tbl := mq_4 (List.mem_of_getElem? (i := 235) rfl)
theorem mw_956 : (Jvm.Cond.methodLink "LineSorterLaw" (108 : Nat) ({ cls := "LineSorterModel", name := "sort", desc := "()I" } : Jvm.MethodName)) ∈ lw_tbl := mq_4 (List.mem_of_getElem? (i := 236) rfl)
theorem mw_957 : (Jvm.Cond.instanceMethod ({ cls := "LineSorterModel", name := "sort", desc := "()I" } : Jvm.MethodName)) ∈ lw_tbl := mq_4 (List.mem_of_getElem? (i := 237) rfl)
theorem mw_958 : (Jvm.Cond.selects "LineSorterModel" ({ cls := "LineSorterModel", name := "sort", desc := "()I" } : Jvm.MethodName) ({ cls := "LineSorterModel", name := "sort", desc := "()I" } : Jvm.MethodName)) ∈ lw_tbl := mq_4 (List.mem_of_getElem? (i := 238) rfl)
theorem mw_959 : (Jvm.Cond.code ({ cls := "LineSorterModel", name := "sort", desc := "()I" } : Jvm.MethodName) prog_11_method_48_code (2 : Nat) (Option.some Jvm.ClassFile.FieldType.int)) ∈ lw_tbl := mq_4 (List.mem_of_getElem? (i := 239) rfl)
theorem mw_960 : (Jvm.Cond.methodLink "LineSorterModel" (209 : Nat) ({ cls := "LineSorterModel", name := "hold", desc := "()V" } : Jvm.MethodName)) ∈ lw_tbl := mq_5 (List.mem_of_getElem? (i := 0) rfl)
theorem mw_962 : (Jvm.Cond.instanceMethod ({ cls := "LineSorterModel", name := "hold", desc := "()V" } : Jvm.MethodName)) ∈ lw_tbl := mq_5 (List.mem_of_getElem? (i := 2) rfl)
theorem mw_963 : (Jvm.Cond.code ({ cls := "LineSorterModel", name := "hold", desc := "()V" } : Jvm.MethodName) prog_11_method_44_code (3 : Nat) (Option.none : Option Jvm.ClassFile.FieldType)) ∈ lw_tbl := mq_5 (List.mem_of_getElem? (i := 3) rfl)
theorem mw_964 : (Jvm.Cond.methodLink "LineSorterModel" (212 : Nat) ({ cls := "LineSorterModel", name := "makeRuns", desc := "()V" } : Jvm.MethodName)) ∈ lw_tbl := mq_5 (List.mem_of_getElem? (i := 4) rfl)
theorem mw_966 : (Jvm.Cond.instanceMethod ({ cls := "LineSorterModel", name := "makeRuns", desc := "()V" } : Jvm.MethodName)) ∈ lw_tbl := mq_5 (List.mem_of_getElem? (i := 6) rfl)
theorem mw_967 : (Jvm.Cond.code ({ cls := "LineSorterModel", name := "makeRuns", desc := "()V" } : Jvm.MethodName) prog_11_method_45_code (8 : Nat) (Option.none : Option Jvm.ClassFile.FieldType)) ∈ lw_tbl := mq_5 (List.mem_of_getElem? (i := 7) rfl)
theorem mw_968 : (Jvm.Cond.methodLink "LineSorterModel" (197 : Nat) ({ cls := "LineSorterModel", name := "isBefore", desc := "(II)Z" } : Jvm.MethodName)) ∈ lw_tbl := mq_5 (List.mem_of_getElem? (i := 8) rfl)
theorem mw_970 : (Jvm.Cond.instanceMethod ({ cls := "LineSorterModel", name := "isBefore", desc := "(II)Z" } : Jvm.MethodName)) ∈ lw_tbl := mq_5 (List.mem_of_getElem? (i := 10) rfl)
theorem mw_971 : (Jvm.Cond.code ({ cls := "LineSorterModel", name := "isBefore", desc := "(II)Z" } : Jvm.MethodName) prog_11_method_40_code (4 : Nat) (Option.some Jvm.ClassFile.FieldType.boolean)) ∈ lw_tbl := mq_5 (List.mem_of_getElem? (i := 11) rfl)
theorem mw_972 : (Jvm.Cond.methodLink "LineSorterModel" (188 : Nat) ({ cls := "LineSorterModel", name := "byAll", desc := "(II)I" } : Jvm.MethodName)) ∈ lw_tbl := mq_5 (List.mem_of_getElem? (i := 12) rfl)
theorem mw_974 : (Jvm.Cond.instanceMethod ({ cls := "LineSorterModel", name := "byAll", desc := "(II)I" } : Jvm.MethodName)) ∈ lw_tbl := mq_5 (List.mem_of_getElem? (i := 14) rfl)
theorem mw_975 : (Jvm.Cond.code ({ cls := "LineSorterModel", name := "byAll", desc := "(II)I" } : Jvm.MethodName) prog_11_method_39_code (5 : Nat) (Option.some Jvm.ClassFile.FieldType.int)) ∈ lw_tbl := mq_5 (List.mem_of_getElem? (i := 15) rfl)
theorem mw_976 : (Jvm.Cond.methodLink "LineSorterModel" (218 : Nat) ({ cls := "LineSorterModel", name := "mergeFirst", desc := "()V" } : Jvm.MethodName)) ∈ lw_tbl := mq_5 (List.mem_of_getElem? (i := 16) rfl)
theorem mw_978 : (Jvm.Cond.instanceMethod ({ cls := "LineSorterModel", name := "mergeFirst", desc := "()V" } : Jvm.MethodName)) ∈ lw_tbl := mq_5 (List.mem_of_getElem? (i := 18) rfl)
theorem mw_979 : (Jvm.Cond.code ({ cls := "LineSorterModel", name := "mergeFirst", desc := "()V" } : Jvm.MethodName) prog_11_method_46_code (9 : Nat) (Option.none : Option Jvm.ClassFile.FieldType)) ∈ lw_tbl := mq_5 (List.mem_of_getElem? (i := 19) rfl)
theorem mw_980 : (Jvm.Cond.methodLink "LineSorterModel" (200 : Nat) ({ cls := "LineSorterModel", name := "headOf", desc := "(I)I" } : Jvm.MethodName)) ∈ lw_tbl := mq_5 (List.mem_of_getElem? (i := 20) rfl)
theorem mw_982 : (Jvm.Cond.instanceMethod ({ cls := "LineSorterModel", name := "headOf", desc := "(I)I" } : Jvm.MethodName)) ∈ lw_tbl := mq_5 (List.mem_of_getElem? (i := 22) rfl)
theorem mw_983 : (Jvm.Cond.code ({ cls := "LineSorterModel", name := "headOf", desc := "(I)I" } : Jvm.MethodName) prog_11_method_47_code (4 : Nat) (Option.some Jvm.ClassFile.FieldType.int)) ∈ lw_tbl := mq_5 (List.mem_of_getElem? (i := 23) rfl)
theorem mw_984 : (Jvm.Cond.methodLink "LineSorterLaw" (112 : Nat) ({ cls := "LineSorterModel", name := "check", desc := "()I" } : Jvm.MethodName)) ∈ lw_tbl := mq_5 (List.mem_of_getElem? (i := 24) rfl)
theorem mw_985 : (Jvm.Cond.instanceMethod ({ cls := "LineSorterModel", name := "check", desc := "()I" } : Jvm.MethodName)) ∈ lw_tbl := mq_5 (List.mem_of_getElem? (i := 25) rfl)
theorem mw_986 : (Jvm.Cond.selects "LineSorterModel" ({ cls := "LineSorterModel", name := "check", desc := "()I" } : Jvm.MethodName) ({ cls := "LineSorterModel", name := "check", desc := "()I" } : Jvm.MethodName)) ∈ lw_tbl := mq_5 (List.mem_of_getElem? (i := 26) rfl)
theorem mw_987 : (Jvm.Cond.code ({ cls := "LineSorterModel", name := "check", desc := "()I" } : Jvm.MethodName) prog_11_method_49_code (3 : Nat) (Option.some Jvm.ClassFile.FieldType.int)) ∈ lw_tbl := mq_5 (List.mem_of_getElem? (i := 27) rfl)
theorem mw_988 : (Jvm.Cond.methodLink "LineSorterLaw" (116 : Nat) ({ cls := "LineSorterModel", name := "merge", desc := "(I)I" } : Jvm.MethodName)) ∈ lw_tbl := mq_5 (List.mem_of_getElem? (i := 28) rfl)
theorem mw_989 : (Jvm.Cond.instanceMethod ({ cls := "LineSorterModel", name := "merge", desc := "(I)I" } : Jvm.MethodName)) ∈ lw_tbl := mq_5 (List.mem_of_getElem? (i := 29) rfl)
theorem mw_990 : (Jvm.Cond.selects "LineSorterModel" ({ cls := "LineSorterModel", name := "merge", desc := "(I)I" } : Jvm.MethodName) ({ cls := "LineSorterModel", name := "merge", desc := "(I)I" } : Jvm.MethodName)) ∈ lw_tbl := mq_5 (List.mem_of_getElem? (i := 30) rfl)
theorem mw_991 : (Jvm.Cond.code ({ cls := "LineSorterModel", name := "merge", desc := "(I)I" } : Jvm.MethodName) prog_11_method_50_code (8 : Nat) (Option.some Jvm.ClassFile.FieldType.int)) ∈ lw_tbl := mq_5 (List.mem_of_getElem? (i := 31) rfl)
theorem mw_992 : (Jvm.Cond.methodLink "LineSorterLaw" (120 : Nat) ({ cls := "LineSorterModel", name := "result", desc := "(I)I" } : Jvm.MethodName)) ∈ lw_tbl := mq_5 (List.mem_of_getElem? (i := 32) rfl)
theorem mw_993 : (Jvm.Cond.instanceMethod ({ cls := "LineSorterModel", name := "result", desc := "(I)I" } : Jvm.MethodName)) ∈ lw_tbl := mq_5 (List.mem_of_getElem? (i := 33) rfl)
theorem mw_994 : (Jvm.Cond.selects "LineSorterModel" ({ cls := "LineSorterModel", name := "result", desc := "(I)I" } : Jvm.MethodName) ({ cls := "LineSorterModel", name := "result", desc := "(I)I" } : Jvm.MethodName)) ∈ lw_tbl := mq_5 (List.mem_of_getElem? (i := 34) rfl)
theorem mw_995 : (Jvm.Cond.code ({ cls := "LineSorterModel", name := "result", desc := "(I)I" } : Jvm.MethodName) prog_11_method_51_code (2 : Nat) (Option.some Jvm.ClassFile.FieldType.int)) ∈ lw_tbl := mq_5 (List.mem_of_getElem? (i := 35) rfl)
theorem mw_996 : (Jvm.Cond.methodLink "LineSorterLaw" (124 : Nat) ({ cls := "LineSorterModel", name := "byteAt", desc := "(II)I" } : Jvm.MethodName)) ∈ lw_tbl := mq_5 (List.mem_of_getElem? (i := 36) rfl)
theorem mw_997 : (Jvm.Cond.instanceMethod ({ cls := "LineSorterModel", name := "byteAt", desc := "(II)I" } : Jvm.MethodName)) ∈ lw_tbl := mq_5 (List.mem_of_getElem? (i := 37) rfl)
theorem mw_998 : (Jvm.Cond.selects "LineSorterModel" ({ cls := "LineSorterModel", name := "byteAt", desc := "(II)I" } : Jvm.MethodName) ({ cls := "LineSorterModel", name := "byteAt", desc := "(II)I" } : Jvm.MethodName)) ∈ lw_tbl := mq_5 (List.mem_of_getElem? (i := 38) rfl)
theorem mw_999 : (Jvm.Cond.code ({ cls := "LineSorterModel", name := "byteAt", desc := "(II)I" } : Jvm.MethodName) prog_11_method_52_code (4 : Nat) (Option.some Jvm.ClassFile.FieldType.int)) ∈ lw_tbl := mq_5 (List.mem_of_getElem? (i := 39) rfl)
theorem mw_1000 : (Jvm.Cond.methodLink "LineSorterLaw" (128 : Nat) ({ cls := "LineSorterModel", name := "run", desc := "(I)I" } : Jvm.MethodName)) ∈ lw_tbl := mq_5 (List.mem_of_getElem? (i := 40) rfl)
theorem mw_1001 : (Jvm.Cond.instanceMethod ({ cls := "LineSorterModel", name := "run", desc := "(I)I" } : Jvm.MethodName)) ∈ lw_tbl := mq_5 (List.mem_of_getElem? (i := 41) rfl)
theorem mw_1002 : (Jvm.Cond.selects "LineSorterModel" ({ cls := "LineSorterModel", name := "run", desc := "(I)I" } : Jvm.MethodName) ({ cls := "LineSorterModel", name := "run", desc := "(I)I" } : Jvm.MethodName)) ∈ lw_tbl := mq_5 (List.mem_of_getElem? (i := 42) rfl)
theorem mw_1003 : (Jvm.Cond.code ({ cls := "LineSorterModel", name := "run", desc := "(I)I" } : Jvm.MethodName) prog_11_method_53_code (2 : Nat) (Option.some Jvm.ClassFile.FieldType.int)) ∈ lw_tbl := mq_5 (List.mem_of_getElem? (i := 43) rfl)
theorem mw_1004 : (Jvm.Cond.methodLink "LineSorterLaw" (131 : Nat) ({ cls := "LineSorterModel", name := "about", desc := "(I)I" } : Jvm.MethodName)) ∈ lw_tbl := mq_5 (List.mem_of_getElem? (i := 44) rfl)
theorem mw_1005 : (Jvm.Cond.instanceMethod ({ cls := "LineSorterModel", name := "about", desc := "(I)I" } : Jvm.MethodName)) ∈ lw_tbl := mq_5 (List.mem_of_getElem? (i := 45) rfl)
theorem mw_1006 : (Jvm.Cond.selects "LineSorterModel" ({ cls := "LineSorterModel", name := "about", desc := "(I)I" } : Jvm.MethodName) ({ cls := "LineSorterModel", name := "about", desc := "(I)I" } : Jvm.MethodName)) ∈ lw_tbl := mq_5 (List.mem_of_getElem? (i := 46) rfl)
theorem mw_1007 : (Jvm.Cond.code ({ cls := "LineSorterModel", name := "about", desc := "(I)I" } : Jvm.MethodName) prog_11_method_54_code (2 : Nat) (Option.some Jvm.ClassFile.FieldType.int)) ∈ lw_tbl := mq_5 (List.mem_of_getElem? (i := 47) rfl)
theorem pv_P_fieldStart : Cond.selects (y_P_fieldStart).cls y_P_fieldStart y_P_fieldStart ∈ lw_tbl := List.mem_append_left _ (List.mem_of_getElem? (i := 0) rfl)
theorem pv_P_fieldStop : Cond.selects (y_P_fieldStop).cls y_P_fieldStop y_P_fieldStop ∈ lw_tbl := List.mem_append_left _ (List.mem_of_getElem? (i := 1) rfl)
theorem pv_P_passBlanksOfField : Cond.selects (y_P_passBlanksOfField).cls y_P_passBlanksOfField y_P_passBlanksOfField ∈ lw_tbl := List.mem_append_left _ (List.mem_of_getElem? (i := 2) rfl)
theorem pv_O_comparedAsNumbers : Cond.selects (y_O_comparedAsNumbers).cls y_O_comparedAsNumbers y_O_comparedAsNumbers ∈ lw_tbl := List.mem_append_left _ (List.mem_of_getElem? (i := 3) rfl)
theorem pv_T_makeRoom : Cond.selects (y_T_makeRoom).cls y_T_makeRoom y_T_makeRoom ∈ lw_tbl := List.mem_append_left _ (List.mem_of_getElem? (i := 5) rfl)
theorem pv_S_isLine : Cond.selects (y_S_isLine).cls y_S_isLine y_S_isLine ∈ lw_tbl := List.mem_append_left _ (List.mem_of_getElem? (i := 6) rfl)
theorem pv_H_sinkFromTop : Cond.selects (y_H_sinkFromTop).cls y_H_sinkFromTop y_H_sinkFromTop ∈ lw_tbl := List.mem_append_left _ (List.mem_of_getElem? (i := 7) rfl)
theorem pv_U_addLineToRun : Cond.selects (y_U_addLineToRun).cls y_U_addLineToRun y_U_addLineToRun ∈ lw_tbl := List.mem_append_left _ (List.mem_of_getElem? (i := 8) rfl)
theorem pv_S_addToResult : Cond.selects (y_S_addToResult).cls y_S_addToResult y_S_addToResult ∈ lw_tbl := List.mem_append_left _ (List.mem_of_getElem? (i := 9) rfl)
theorem pv_M_fails : Cond.selects (y_M_fails).cls y_M_fails y_M_fails ∈ lw_tbl := List.mem_append_left _ (List.mem_of_getElem? (i := 10) rfl)
theorem pv_M_change : Cond.selects (y_M_change).cls y_M_change y_M_change ∈ lw_tbl := List.mem_append_left _ (List.mem_of_getElem? (i := 11) rfl)
theorem pv_M_findLines : Cond.selects (y_M_findLines).cls y_M_findLines y_M_findLines ∈ lw_tbl := List.mem_append_left _ (List.mem_of_getElem? (i := 12) rfl)
theorem pv_M_keysThere : Cond.selects (y_M_keysThere).cls y_M_keysThere y_M_keysThere ∈ lw_tbl := List.mem_append_left _ (List.mem_of_getElem? (i := 13) rfl)
theorem pv_M_keyEnd : Cond.selects (y_M_keyEnd).cls y_M_keyEnd y_M_keyEnd ∈ lw_tbl := List.mem_append_left _ (List.mem_of_getElem? (i := 14) rfl)
theorem pv_M_endOf : Cond.selects (y_M_endOf).cls y_M_endOf y_M_endOf ∈ lw_tbl := List.mem_append_left _ (List.mem_of_getElem? (i := 15) rfl)
theorem pv_M_keyOf : Cond.selects (y_M_keyOf).cls y_M_keyOf y_M_keyOf ∈ lw_tbl := List.mem_append_left _ (List.mem_of_getElem? (i := 16) rfl)
theorem pv_M_find : Cond.selects (y_M_find).cls y_M_find y_M_find ∈ lw_tbl := List.mem_append_left _ (List.mem_of_getElem? (i := 17) rfl)
theorem pv_M_startOf : Cond.selects (y_M_startOf).cls y_M_startOf y_M_startOf ∈ lw_tbl := List.mem_append_left _ (List.mem_of_getElem? (i := 18) rfl)
theorem pv_M_isBlank : Cond.selects (y_M_isBlank).cls y_M_isBlank y_M_isBlank ∈ lw_tbl := List.mem_append_left _ (List.mem_of_getElem? (i := 19) rfl)
theorem pv_M_begin : Cond.selects (y_M_begin).cls y_M_begin y_M_begin ∈ lw_tbl := List.mem_append_left _ (List.mem_of_getElem? (i := 20) rfl)
theorem pv_M_keyBegin : Cond.selects (y_M_keyBegin).cls y_M_keyBegin y_M_keyBegin ∈ lw_tbl := List.mem_append_left _ (List.mem_of_getElem? (i := 21) rfl)
theorem pv_M_byKeys : Cond.selects (y_M_byKeys).cls y_M_byKeys y_M_byKeys ∈ lw_tbl := List.mem_append_left _ (List.mem_of_getElem? (i := 22) rfl)
theorem pv_M_from : Cond.selects (y_M_from).cls y_M_from y_M_from ∈ lw_tbl := List.mem_append_left _ (List.mem_of_getElem? (i := 23) rfl)
theorem pv_M_to : Cond.selects (y_M_to).cls y_M_to y_M_to ∈ lw_tbl := List.mem_append_left _ (List.mem_of_getElem? (i := 24) rfl)
theorem pv_M_numbers : Cond.selects (y_M_numbers).cls y_M_numbers y_M_numbers ∈ lw_tbl := List.mem_append_left _ (List.mem_of_getElem? (i := 25) rfl)
theorem pv_M_sign : Cond.selects (y_M_sign).cls y_M_sign y_M_sign ∈ lw_tbl := List.mem_append_left _ (List.mem_of_getElem? (i := 26) rfl)
theorem pv_M_wholeAt : Cond.selects (y_M_wholeAt).cls y_M_wholeAt y_M_wholeAt ∈ lw_tbl := List.mem_append_left _ (List.mem_of_getElem? (i := 27) rfl)
theorem pv_M_behindBlanks : Cond.selects (y_M_behindBlanks).cls y_M_behindBlanks y_M_behindBlanks ∈ lw_tbl := List.mem_append_left _ (List.mem_of_getElem? (i := 28) rfl)
theorem pv_M_isMinus : Cond.selects (y_M_isMinus).cls y_M_isMinus y_M_isMinus ∈ lw_tbl := List.mem_append_left _ (List.mem_of_getElem? (i := 29) rfl)
theorem pv_M_isZero : Cond.selects (y_M_isZero).cls y_M_isZero y_M_isZero ∈ lw_tbl := List.mem_append_left _ (List.mem_of_getElem? (i := 30) rfl)
theorem pv_M_isDigit : Cond.selects (y_M_isDigit).cls y_M_isDigit y_M_isDigit ∈ lw_tbl := List.mem_append_left _ (List.mem_of_getElem? (i := 31) rfl)
theorem pv_M_partAt : Cond.selects (y_M_partAt).cls y_M_partAt y_M_partAt ∈ lw_tbl := List.mem_append_left _ (List.mem_of_getElem? (i := 32) rfl)
theorem pv_M_behindDigits : Cond.selects (y_M_behindDigits).cls y_M_behindDigits y_M_behindDigits ∈ lw_tbl := List.mem_append_left _ (List.mem_of_getElem? (i := 33) rfl)
theorem pv_M_sizes : Cond.selects (y_M_sizes).cls y_M_sizes y_M_sizes ∈ lw_tbl := List.mem_append_left _ (List.mem_of_getElem? (i := 34) rfl)
theorem pv_M_bytes : Cond.selects (y_M_bytes).cls y_M_bytes y_M_bytes ∈ lw_tbl := List.mem_append_left _ (List.mem_of_getElem? (i := 35) rfl)
theorem pv_M_counts : Cond.selects (y_M_counts).cls y_M_counts y_M_counts ∈ lw_tbl := List.mem_append_left _ (List.mem_of_getElem? (i := 36) rfl)
theorem pv_M_folded : Cond.selects (y_M_folded).cls y_M_folded y_M_folded ∈ lw_tbl := List.mem_append_left _ (List.mem_of_getElem? (i := 37) rfl)
theorem pv_M_hold : Cond.selects (y_M_hold).cls y_M_hold y_M_hold ∈ lw_tbl := List.mem_append_left _ (List.mem_of_getElem? (i := 38) rfl)
theorem pv_M_makeRuns : Cond.selects (y_M_makeRuns).cls y_M_makeRuns y_M_makeRuns ∈ lw_tbl := List.mem_append_left _ (List.mem_of_getElem? (i := 39) rfl)
theorem pv_M_isBefore : Cond.selects (y_M_isBefore).cls y_M_isBefore y_M_isBefore ∈ lw_tbl := List.mem_append_left _ (List.mem_of_getElem? (i := 40) rfl)
theorem pv_M_byAll : Cond.selects (y_M_byAll).cls y_M_byAll y_M_byAll ∈ lw_tbl := List.mem_append_left _ (List.mem_of_getElem? (i := 41) rfl)
theorem pv_M_mergeFirst : Cond.selects (y_M_mergeFirst).cls y_M_mergeFirst y_M_mergeFirst ∈ lw_tbl := List.mem_append_left _ (List.mem_of_getElem? (i := 42) rfl)
theorem pv_M_headOf : Cond.selects (y_M_headOf).cls y_M_headOf y_M_headOf ∈ lw_tbl := List.mem_append_left _ (List.mem_of_getElem? (i := 43) rfl)
end
section
/-! The judgement XX: from frame (pc, locals lv, operand stack st) of method M over the world ws the machine comes to an end F. All that goes along (tables' words, the classes' numbers, the old heap) is inside. -/
/-- classes' numbers and slots; array classes; where the old heap ends; the launch -/
abbrev XG : Type := va_G × (Nat → ClassId) × Nat × Launch
abbrev XF : Type := List Frame → Array Value → State → State → Prop
def xg_A (G : XG) : Nat → Prop := fun q => G.2.2.1 ≤ q
def xg_ty (G : XG) : List (ClassId × FieldType) := [(G.2.1 0, .byte), (G.2.1 1, .int), (G.2.1 2, .long), (G.2.1 3, .object "LineSorter$Key")]
/-- the good words of the tables -/
def xw_g : List Cond := lw_tbl.filter goodWord
def xw_isN : Cond → Bool
  | .fieldLinkNest .. => true
  | .methodLinkNest .. => true
  | .declares .. => true
  | .castable .. => true
  | _ => false
def xw_n : List Cond := lw_tbl.filter xw_isN
theorem xw_in {w : Cond} (h : w ∈ lw_tbl) (hg : goodWord w = true) : w ∈ xw_g := List.mem_filter.mpr ⟨h, hg⟩
theorem xw_inN {w : Cond} (h : w ∈ lw_tbl) (hg : xw_isN w = true) : w ∈ xw_n := List.mem_filter.mpr ⟨h, hg⟩
/-- what holds of the tables, and of Throwable's two statics, at every state -/
def xk_en (G : XG) (U : State) : Prop := (∀ w ∈ xw_g, ∀ a : Array Value, w.before a U = true) ∧ ((∀ w ∈ xw_n, va_Nw w U) ∧ (∀ t ∈ xw_s, ∃ a : Nat, vk_R t.1 t.2.1 t.2.2 a U) ∧ va_Zq "java/lang/Throwable" "UNASSIGNED_STACK" "[Ljava/lang/StackTraceElement;" (xg_A G) U U.heap ∧ va_Zq "java/lang/Throwable" "SUPPRESSED_SENTINEL" "Ljava/util/List;" (xg_A G) U U.heap) ∧ va_K G.1 xc_cl (xg_ty G) U
theorem xk_en.moved {G : XG} {s U : State} (hW : s.WarmedH U.vm) (hH : ∀ a : Nat, a < s.heap.size → ¬ xg_A G a → U.heap[a]? = s.heap[a]?) (h : xk_en G s) : xk_en G U := by
  refine ⟨fun w hw a => word_at (args := #[]) hW (good_of_word (List.mem_filter.mp hw).2) (h.1 w hw #[]), ⟨fun w hw => ?_, fun t ht => ?_, (h.2.1.2.2.1.moved hW.alike).kept hH, (h.2.1.2.2.2.moved hW.alike).kept hH⟩, va_K.moved hW.alike h.2.2⟩
  · have h1 := (List.mem_filter.mp hw).2
    have h2 := h.2.1.1 w hw
    cases w <;> first | (simp [xw_isN] at h1; done) | exact va_Nw.warmF hW h2 | exact va_Nw.warmM hW h2 | exact va_Nw.warmD hW h2 | exact va_Nw.warmC hW h2
  · obtain ⟨a, h3⟩ := h.2.1.2.1 t ht
    exact ⟨a, h3.warm hW⟩
def xx_fx (G : XG) (M : XM) (p : Program) (s : State) (m : MethodId) (meth : Method) (c : Code) : Prop :=
  p.tables.exec = Jvm.exec ∧ c.code = M.2.1 ∧ c.maxLocals = M.2.2.1 ∧ meth.sig.returnType = M.2.2.2 ∧ meth.locks = false ∧ s.vm.findClass M.1.cls = some m.cls ∧ ((meth.name = M.1.name ∧ s.methodNamed? M.1 = some m) ∨ M.1.name = "law") ∧ G.2.2.1 ≤ s.heap.size ∧ xk_en G s
def XX (G : XG) (M : XM) (R : Room) (F : XF) (cells slots : Nat) (ws : va_W) (pc : Nat) (lv : List (Nat × Value)) (st : List Value) : Prop :=
  ∀ (p : Program) (e : Env) (s : State) (m : MethodId) (args : Array Value) (below : List Frame) (meth : Method) (c : Code) (H : Heap) (locs : List Loc) (ls : Array Slot),
    xx_fx G M p s m meth c → va_P G.1 xc_cl ws H → va_D (xg_A G) ws → va_S (xg_A G) s.heap H locs → lv_has ls M.2.2.1 lv →
    W p G.2.2.2 e R s m args below meth c H locs cells slots (F below args s) (F0 m pc ls st)
def xx_ws (M : XM) : List Cond := .code M.1 M.2.1 M.2.2.1 M.2.2.2 :: xw_g
def xx_pc (G : XG) (av : List Value) (ws : va_W) : Array Value → State → Prop := fun v U => v = av.toArray ∧ G.2.2.1 ≤ U.heap.size ∧ xk_en G U ∧ va_P G.1 xc_cl ws U.heap ∧ va_D (xg_A G) ws
def xx_qc (G : XG) (P : Option Value → va_W → Prop) : Array Value → State → Outcome → State → Prop := fun _ st o t => va_F (xg_A G) st t ∧ ∃ (r : Option Value) (ws : va_W), o = .returned r ∧ P r ws ∧ va_P G.1 xc_cl ws t.heap ∧ va_D (xg_A G) ws
/-- the contract of method M: from arguments av and world ws it returns r with world ws' such that P r ws' -/
def MM (G : XG) (M : XM) (rm : Room) (av : List Value) (ws : va_W) (P : Option Value → va_W → Prop) : Prop :=
  Met G.2.2.2 M.1 (xx_ws M) rm (xx_pc G av ws) (xx_qc G P) rm.cells rm.slots (xg_A G)
def xx_F (G : XG) (P : Option Value → va_W → Prop) (rm : Room) : XF := fun below args s => MQ below (xx_qc G P) args s rm.cells rm.slots (xg_A G)
theorem xx_blind (G : XG) (av : List Value) (ws : va_W) : FrameBlind (xx_pc G av ws) := by
  intro a U g mk h
  obtain ⟨h1, h2, h3, h4, h5⟩ := h
  exact ⟨h1, h2, xk_en.moved (s := U) (U := U.calling g mk a) (State.WarmedH.refl U) (fun _ _ _ => rfl) h3, h4, h5⟩
theorem MM.of {G : XG} {M : XM} {rm : Room} {av : List Value} {ws : va_W} {P : Option Value → va_W → Prop} (hy : plainName M.1.cls = true) (hlen : (lg_sl av).length ≤ M.2.2.1)
    (h : XX G M rm (xx_F G P rm) 0 0 ws 0 (lv_args 0 av) []) : MM G M rm av ws P := by
  refine Met.ofW (cc := M.2.1) (maxL := M.2.2.1) (ret := M.2.2.2) hy rfl ?_
  intro p e s m args below meth c s₁ B hml hv
  obtain ⟨rfl, hbase, hen, hP, hD⟩ := hv
  have hl := lv_entry av (n := M.2.2.1) hlen
  rw [lg_entry_eq]
  exact h p e s m _ below meth c s.heap [] _ ⟨B.exec, B.bytes, hml, B.returns, B.notSynchronized, findClass_of_methodNamed B.named, Or.inl ⟨(name_of_methodNamed B.named B.method).1, B.named⟩, hbase, hen⟩ hP hD va_S.rf hl
/-- a contract may promise less -/
theorem MM.mono {G : XG} {M : XM} {rm : Room} {av : List Value} {ws : va_W} {P P' : Option Value → va_W → Prop} (h : MM G M rm av ws P) (hp : ∀ r w, P r w → P' r w) : MM G M rm av ws P' := by
  intro p e h1 h2 h3 s m args below h4 h5 h6 h7
  obtain ⟨n, o, a1, a2, a3, ⟨b1, r, w, b2, b3, b4⟩, b5⟩ := h p e h1 h2 h3 s m args below h4 h5 h6 h7
  exact ⟨n, o, a1, a2, a3, ⟨b1, r, w, b2, hp r w b3, b4⟩, b5⟩
section
variable {p : Program} {l : Launch} {e : Env} {R : Room} {s : State} {m : MethodId} {args : Array Value} {below : List Frame} {meth : Method} {c : Code} {H : Heap} {locs : List Loc} {cells slots : Nat} {Q : State → Prop}
theorem xx_after {G : XG} {P : Option Value → va_W → Prop} {a : Array Value} {mc ms pc : Nat} {ls : Array Slot} {st0 rest : List Value} (hr : va_Run p l e R s m args below meth c H locs cells slots mc ms (F0 m pc ls st0) rest (xx_qc G P a) (xg_A G)) (hS : va_S (xg_A G) s.heap H locs)
    (kk : ∀ (r : Option Value) (ws1 : va_W) (H1 : Heap) (locs1 : List Loc), P r ws1 → va_P G.1 xc_cl ws1 H1 → va_D (xg_A G) ws1 → va_S (xg_A G) s.heap H1 locs1 → W p l e R s m args below meth c H1 locs1 (cells + mc) (slots + ms) Q (F0 m (pc + 3) ls (r.toList ++ rest))) : W p l e R s m args below meth c H locs cells slots Q (F0 m pc ls st0) := by
  intro T hT X
  obtain ⟨v, st₀, t, T', L, h0, X', hL, e1, e2, ⟨⟨hz, hk⟩, r, ws1, hv, hp, hP1, hD1⟩, st⟩ := hr T hT X
  cases hv
  rw [h0] at hz hk
  obtain ⟨t2, a1, b1⟩ := kk v ws1 T'.heap (locs ++ L) hp (by rw [e1]; exact hP1) hD1 ⟨Nat.le_trans hS.1 (by rw [e1]; exact hz), fun q h1 h2 => by rw [e1, hk q (Nat.lt_of_lt_of_le h1 hS.1) h2]; exact hS.2.1 q h1 h2, fun q hq => by
      rcases List.mem_append.mp hq with h | h
      · exact hS.2.2 q h
      · exact hL q h⟩ T' rfl X'
  exact ⟨t2, st t2 a1, b1⟩
end
/-- a method as the tables have it -/
def xx_mt (Mk : XM) (n : Nat) : Prop := Cond.code Mk.1 Mk.2.1 Mk.2.2.1 Mk.2.2.2 ∈ xw_g ∧ Cond.initialized Mk.1.cls ∈ xw_g ∧ Mk.1.cls ≠ "java/lang/invoke/MethodHandle" ∧ Mk.1.cls ≠ "java/lang/invoke/VarHandle" ∧ (parseMethodDescriptor Mk.1.desc).map (fun d => d.parameters.length) = some n
/-- a class as the tables have it -/
def xx_cf (ci : Nat) (C : String) (T : u_T) (N : Nat) (ty : Nat → FieldType) : Prop := xc_cl[ci]? = some (C, T, N) ∧ (∀ w ∈ u_ws C T N, w ∈ xw_g) ∧ (∀ k, k < N → parseFieldDescriptor (T k).2.2.1 = some (ty k)) ∧ ∀ a, a < N → ∀ b, b < N → a ≠ b → (T a).2.1 ≠ (T b).2.1
/-- the field k of class ci, as own's pool names it at idx -/
def xx_fl (own : String) (idx ci k : Nat) : Prop := ∃ (C : String) (T : u_T) (N : Nat) (ty : Nat → FieldType), xx_cf ci C T N ty ∧ k < N ∧ (Cond.fieldLink own idx (T k).1 (T k).2.1 (T k).2.2.1 ∈ xw_g ∨ ∃ host : String, Cond.fieldLinkNest own idx (T k).1 (T k).2.1 (T k).2.2.1 host ∈ xw_n)
def xx_fp (own : String) (idx ci k : Nat) (t : FieldType) : Prop := ∃ (C : String) (T : u_T) (N : Nat) (ty : Nat → FieldType), xx_cf ci C T N ty ∧ k < N ∧ (T k).2.2.2 = false ∧ parseFieldDescriptor (T k).2.2.1 = some t ∧ (Cond.fieldLink own idx (T k).1 (T k).2.1 (T k).2.2.1 ∈ xw_g ∨ ∃ host : String, Cond.fieldLinkNest own idx (T k).1 (T k).2.1 (T k).2.2.1 host ∈ xw_n)
def xx_ff (own : String) (idx ci k : Nat) (t : FieldType) : Prop := ∃ (C : String) (T : u_T) (N : Nat) (ty : Nat → FieldType), xx_cf ci C T N ty ∧ k < N ∧ (T k).2.2.2 = true ∧ (T k).1 = own ∧ parseFieldDescriptor (T k).2.2.1 = some t ∧ Cond.fieldLink own idx (T k).1 (T k).2.1 (T k).2.2.1 ∈ xw_g
def xx_nw (own : String) (idx ci : Nat) (fs : List Value) (N : Nat) : Prop := ∃ (C : String) (T : u_T) (ty : Nat → FieldType), xx_cf ci C T N ty ∧ Cond.classLink own idx C ∈ xw_g ∧ Cond.instantiable C N ∈ xw_g ∧ Cond.initialized C ∈ xw_g ∧ ∀ j, j < N → defaultValue (ty j) = vp_V fs j
theorem xx_good {Mk : XM} (h : Cond.code Mk.1 Mk.2.1 Mk.2.2.1 Mk.2.2.2 ∈ xw_g) : GoodIn xw_g (xx_ws Mk) := by
  intro w hw
  rcases List.mem_cons.mp hw with h0 | h1
  · rw [h0]; exact ⟨h, good_of_word (List.mem_filter.mp h).2⟩
  · exact ⟨h1, good_of_word (List.mem_filter.mp h1).2⟩
section
variable {G : XG} {M : XM} {R : Room} {F : XF} {cells slots : Nat} {ws : va_W} {pc : Nat} {lv : List (Nat × Value)} {st : List Value}
theorem XX.iconst {n : Int} {v : Int32} (hd : decode M.2.1 pc = .ok (.iconst n, 1)) (hv : Int32.ofInt n = v) (k : XX G M R F cells slots ws (pc + 1) lv (.int v :: st)) : XX G M R F cells slots ws pc lv (st) := by
  intro p e s m args below meth c H locs ls hf hP hD hS hl
  exact lv_iconst hf.1 hf.2.1 hd hv (k p e s m args below meth c H locs ls hf hP hD hS hl)
theorem XX.bipush {n : Int} {v : Int32} (hd : decode M.2.1 pc = .ok (.bipush n, 2)) (hv : (Int8.ofInt n).toInt32 = v) (k : XX G M R F cells slots ws (pc + 2) lv (.int v :: st)) : XX G M R F cells slots ws pc lv (st) := by
  intro p e s m args below meth c H locs ls hf hP hD hS hl
  exact lv_bipush hf.1 hf.2.1 hd hv (k p e s m args below meth c H locs ls hf hP hD hS hl)
theorem XX.sipush {n : Int} {v : Int32} (hd : decode M.2.1 pc = .ok (.sipush n, 3)) (hv : (Int16.ofInt n).toInt32 = v) (k : XX G M R F cells slots ws (pc + 3) lv (.int v :: st)) : XX G M R F cells slots ws pc lv (st) := by
  intro p e s m args below meth c H locs ls hf hP hD hS hl
  exact lv_sipush hf.1 hf.2.1 hd hv (k p e s m args below meth c H locs ls hf hP hD hS hl)
theorem XX.lconst {n : Fin 2} {v : Int64} (hd : decode M.2.1 pc = .ok (.lconst n, 1)) (hv : Int64.ofNat (n : Nat) = v) (k : XX G M R F cells slots ws (pc + 1) lv (.long v :: st)) : XX G M R F cells slots ws pc lv (st) := by
  intro p e s m args below meth c H locs ls hf hP hD hS hl
  exact lv_lconst hf.1 hf.2.1 hd hv (k p e s m args below meth c H locs ls hf hP hD hS hl)
theorem XX.iload_n {j : Fin 4} {i : Nat} {x : Int32} (hd : decode M.2.1 pc = .ok (.iload_n j, 1)) (hi : (j : Nat) = i) (z : Nat) (hz : lv[z]? = some (i, .int x)) (k : XX G M R F cells slots ws (pc + 1) lv (.int x :: st)) : XX G M R F cells slots ws pc lv (st) := by
  intro p e s m args below meth c H locs ls hf hP hD hS hl
  exact lv_iload_n hf.1 hf.2.1 hd hi (lv_at hl z hz) (k p e s m args below meth c H locs ls hf hP hD hS hl)
theorem XX.iload {i : Nat} {x : Int32} (hd : decode M.2.1 pc = .ok (.iload i, 2)) (z : Nat) (hz : lv[z]? = some (i, .int x)) (k : XX G M R F cells slots ws (pc + 2) lv (.int x :: st)) : XX G M R F cells slots ws pc lv (st) := by
  intro p e s m args below meth c H locs ls hf hP hD hS hl
  exact lv_iload hf.1 hf.2.1 hd (lv_at hl z hz) (k p e s m args below meth c H locs ls hf hP hD hS hl)
theorem XX.lload_n {j : Fin 4} {i : Nat} {x : Int64} (hd : decode M.2.1 pc = .ok (.lload_n j, 1)) (hi : (j : Nat) = i) (z : Nat) (hz : lv[z]? = some (i, .long x)) (k : XX G M R F cells slots ws (pc + 1) lv (.long x :: st)) : XX G M R F cells slots ws pc lv (st) := by
  intro p e s m args below meth c H locs ls hf hP hD hS hl
  exact lv_lload_n hf.1 hf.2.1 hd hi (lv_at hl z hz) (k p e s m args below meth c H locs ls hf hP hD hS hl)
theorem XX.lload {i : Nat} {x : Int64} (hd : decode M.2.1 pc = .ok (.lload i, 2)) (z : Nat) (hz : lv[z]? = some (i, .long x)) (k : XX G M R F cells slots ws (pc + 2) lv (.long x :: st)) : XX G M R F cells slots ws pc lv (st) := by
  intro p e s m args below meth c H locs ls hf hP hD hS hl
  exact lv_lload hf.1 hf.2.1 hd (lv_at hl z hz) (k p e s m args below meth c H locs ls hf hP hD hS hl)
theorem XX.aload_n {j : Fin 4} {i : Nat} {x : Nat} (hd : decode M.2.1 pc = .ok (.aload_n j, 1)) (hi : (j : Nat) = i) (z : Nat) (hz : lv[z]? = some (i, .ref x)) (k : XX G M R F cells slots ws (pc + 1) lv (.ref x :: st)) : XX G M R F cells slots ws pc lv (st) := by
  intro p e s m args below meth c H locs ls hf hP hD hS hl
  exact lv_aload_n hf.1 hf.2.1 hd hi (lv_at hl z hz) (k p e s m args below meth c H locs ls hf hP hD hS hl)
theorem XX.aload {i : Nat} {x : Nat} (hd : decode M.2.1 pc = .ok (.aload i, 2)) (z : Nat) (hz : lv[z]? = some (i, .ref x)) (k : XX G M R F cells slots ws (pc + 2) lv (.ref x :: st)) : XX G M R F cells slots ws pc lv (st) := by
  intro p e s m args below meth c H locs ls hf hP hD hS hl
  exact lv_aload hf.1 hf.2.1 hd (lv_at hl z hz) (k p e s m args below meth c H locs ls hf hP hD hS hl)
theorem XX.istore_n {j : Fin 4} {i : Nat} {x : Int32} {lv2 : List (Nat × Value)} (hd : decode M.2.1 pc = .ok (.istore_n j, 1)) (hi : (j : Nat) = i) (hn : i < M.2.2.1) (h2 : (i, Value.int x) :: lv.filter (fun q => !(q.1 == i) && !(q.1 + 1 == i && q.2.category == 2)) = lv2) (k : XX G M R F cells slots ws (pc + 1) lv2 st) : XX G M R F cells slots ws pc lv (.int x :: st) := by
  intro p e s m args below meth c H locs ls hf hP hD hS hl
  exact lv_istore_n hf.1 hf.2.1 hd hi hl hn h2 (fun ls2 hl2 => k p e s m args below meth c H locs ls2 hf hP hD hS hl2)
theorem XX.istore {i : Nat} {x : Int32} {lv2 : List (Nat × Value)} (hd : decode M.2.1 pc = .ok (.istore i, 2)) (hn : i < M.2.2.1) (h2 : (i, Value.int x) :: lv.filter (fun q => !(q.1 == i) && !(q.1 + 1 == i && q.2.category == 2)) = lv2) (k : XX G M R F cells slots ws (pc + 2) lv2 st) : XX G M R F cells slots ws pc lv (.int x :: st) := by
  intro p e s m args below meth c H locs ls hf hP hD hS hl
  exact lv_istore hf.1 hf.2.1 hd hl hn h2 (fun ls2 hl2 => k p e s m args below meth c H locs ls2 hf hP hD hS hl2)
theorem XX.lstore_n {j : Fin 4} {i : Nat} {x : Int64} {lv2 : List (Nat × Value)} (hd : decode M.2.1 pc = .ok (.lstore_n j, 1)) (hi : (j : Nat) = i) (hn : i + 1 < M.2.2.1) (h2 : (i, Value.long x) :: lv.filter (fun q => !(q.1 == i) && (!(q.1 == i + 1) && !(q.1 + 1 == i && q.2.category == 2))) = lv2) (k : XX G M R F cells slots ws (pc + 1) lv2 st) : XX G M R F cells slots ws pc lv (.long x :: st) := by
  intro p e s m args below meth c H locs ls hf hP hD hS hl
  exact lv_lstore_n hf.1 hf.2.1 hd hi hl hn h2 (fun ls2 hl2 => k p e s m args below meth c H locs ls2 hf hP hD hS hl2)
theorem XX.lstore {i : Nat} {x : Int64} {lv2 : List (Nat × Value)} (hd : decode M.2.1 pc = .ok (.lstore i, 2)) (hn : i + 1 < M.2.2.1) (h2 : (i, Value.long x) :: lv.filter (fun q => !(q.1 == i) && (!(q.1 == i + 1) && !(q.1 + 1 == i && q.2.category == 2))) = lv2) (k : XX G M R F cells slots ws (pc + 2) lv2 st) : XX G M R F cells slots ws pc lv (.long x :: st) := by
  intro p e s m args below meth c H locs ls hf hP hD hS hl
  exact lv_lstore hf.1 hf.2.1 hd hl hn h2 (fun ls2 hl2 => k p e s m args below meth c H locs ls2 hf hP hD hS hl2)
theorem XX.astore_n {j : Fin 4} {i : Nat} {x : Nat} {lv2 : List (Nat × Value)} (hd : decode M.2.1 pc = .ok (.astore_n j, 1)) (hi : (j : Nat) = i) (hn : i < M.2.2.1) (h2 : (i, Value.ref x) :: lv.filter (fun q => !(q.1 == i) && !(q.1 + 1 == i && q.2.category == 2)) = lv2) (k : XX G M R F cells slots ws (pc + 1) lv2 st) : XX G M R F cells slots ws pc lv (.ref x :: st) := by
  intro p e s m args below meth c H locs ls hf hP hD hS hl
  exact lv_astore_n hf.1 hf.2.1 hd hi hl hn h2 (fun ls2 hl2 => k p e s m args below meth c H locs ls2 hf hP hD hS hl2)
theorem XX.astore {i : Nat} {x : Nat} {lv2 : List (Nat × Value)} (hd : decode M.2.1 pc = .ok (.astore i, 2)) (hn : i < M.2.2.1) (h2 : (i, Value.ref x) :: lv.filter (fun q => !(q.1 == i) && !(q.1 + 1 == i && q.2.category == 2)) = lv2) (k : XX G M R F cells slots ws (pc + 2) lv2 st) : XX G M R F cells slots ws pc lv (.ref x :: st) := by
  intro p e s m args below meth c H locs ls hf hP hD hS hl
  exact lv_astore hf.1 hf.2.1 hd hl hn h2 (fun ls2 hl2 => k p e s m args below meth c H locs ls2 hf hP hD hS hl2)
theorem XX.iinc {i z : Nat} {n : Int} {x v : Int32} {lv2 : List (Nat × Value)} (hd : decode M.2.1 pc = .ok (.iinc i n, 3)) (hz : lv[z]? = some (i, .int x)) (hv : x + Int32.ofInt n = v) (hn : i < M.2.2.1) (h2 : (i, Value.int v) :: lv.filter (fun q => !(q.1 == i) && !(q.1 + 1 == i && q.2.category == 2)) = lv2) (k : XX G M R F cells slots ws (pc + 3) lv2 st) : XX G M R F cells slots ws pc lv st := by
  intro p e s m args below meth c H locs ls hf hP hD hS hl
  exact lv_iinc hf.1 hf.2.1 hd hl hz hv hn h2 (fun ls2 hl2 => k p e s m args below meth c H locs ls2 hf hP hD hS hl2)
theorem XX.iadd {x y : Int32} (hd : decode M.2.1 pc = .ok (.iadd, 1))  (k : XX G M R F cells slots ws (pc + 1) lv (.int (x + y) :: st)) : XX G M R F cells slots ws pc lv (.int y :: .int x :: st) := by
  intro p e s m args below meth c H locs ls hf hP hD hS hl
  exact lv_iadd hf.1 hf.2.1 hd  (k p e s m args below meth c H locs ls hf hP hD hS hl)
theorem XX.isub {x y : Int32} (hd : decode M.2.1 pc = .ok (.isub, 1))  (k : XX G M R F cells slots ws (pc + 1) lv (.int (x - y) :: st)) : XX G M R F cells slots ws pc lv (.int y :: .int x :: st) := by
  intro p e s m args below meth c H locs ls hf hP hD hS hl
  exact lv_isub hf.1 hf.2.1 hd  (k p e s m args below meth c H locs ls hf hP hD hS hl)
theorem XX.imul {x y : Int32} (hd : decode M.2.1 pc = .ok (.imul, 1))  (k : XX G M R F cells slots ws (pc + 1) lv (.int (x * y) :: st)) : XX G M R F cells slots ws pc lv (.int y :: .int x :: st) := by
  intro p e s m args below meth c H locs ls hf hP hD hS hl
  exact lv_imul hf.1 hf.2.1 hd  (k p e s m args below meth c H locs ls hf hP hD hS hl)
theorem XX.iand {x y : Int32} (hd : decode M.2.1 pc = .ok (.iand, 1))  (k : XX G M R F cells slots ws (pc + 1) lv (.int (x &&& y) :: st)) : XX G M R F cells slots ws pc lv (.int y :: .int x :: st) := by
  intro p e s m args below meth c H locs ls hf hP hD hS hl
  exact lv_iand hf.1 hf.2.1 hd  (k p e s m args below meth c H locs ls hf hP hD hS hl)
theorem XX.ishl {x y : Int32} (hd : decode M.2.1 pc = .ok (.ishl, 1))  (k : XX G M R F cells slots ws (pc + 1) lv (.int (x <<< (y &&& 31)) :: st)) : XX G M R F cells slots ws pc lv (.int y :: .int x :: st) := by
  intro p e s m args below meth c H locs ls hf hP hD hS hl
  exact lv_ishl hf.1 hf.2.1 hd  (k p e s m args below meth c H locs ls hf hP hD hS hl)
theorem XX.ishr {x y : Int32} (hd : decode M.2.1 pc = .ok (.ishr, 1))  (k : XX G M R F cells slots ws (pc + 1) lv (.int (x >>> (y &&& 31)) :: st)) : XX G M R F cells slots ws pc lv (.int y :: .int x :: st) := by
  intro p e s m args below meth c H locs ls hf hP hD hS hl
  exact lv_ishr hf.1 hf.2.1 hd  (k p e s m args below meth c H locs ls hf hP hD hS hl)
theorem XX.idiv {x y : Int32} (hd : decode M.2.1 pc = .ok (.idiv, 1)) (hne : ¬ y = 0) (k : XX G M R F cells slots ws (pc + 1) lv (.int (x / y) :: st)) : XX G M R F cells slots ws pc lv (.int y :: .int x :: st) := by
  intro p e s m args below meth c H locs ls hf hP hD hS hl
  exact lv_idiv hf.1 hf.2.1 hd hne (k p e s m args below meth c H locs ls hf hP hD hS hl)
theorem XX.irem {x y : Int32} (hd : decode M.2.1 pc = .ok (.irem, 1)) (hne : ¬ y = 0) (k : XX G M R F cells slots ws (pc + 1) lv (.int (x - x / y * y) :: st)) : XX G M R F cells slots ws pc lv (.int y :: .int x :: st) := by
  intro p e s m args below meth c H locs ls hf hP hD hS hl
  exact lv_irem hf.1 hf.2.1 hd hne (k p e s m args below meth c H locs ls hf hP hD hS hl)
theorem XX.ineg {x : Int32} (hd : decode M.2.1 pc = .ok (.ineg, 1))  (k : XX G M R F cells slots ws (pc + 1) lv (.int (-x) :: st)) : XX G M R F cells slots ws pc lv (.int x :: st) := by
  intro p e s m args below meth c H locs ls hf hP hD hS hl
  exact lv_ineg hf.1 hf.2.1 hd  (k p e s m args below meth c H locs ls hf hP hD hS hl)
theorem XX.ladd {x y : Int64} (hd : decode M.2.1 pc = .ok (.ladd, 1))  (k : XX G M R F cells slots ws (pc + 1) lv (.long (x + y) :: st)) : XX G M R F cells slots ws pc lv (.long y :: .long x :: st) := by
  intro p e s m args below meth c H locs ls hf hP hD hS hl
  exact lv_ladd hf.1 hf.2.1 hd  (k p e s m args below meth c H locs ls hf hP hD hS hl)
theorem XX.lsub {x y : Int64} (hd : decode M.2.1 pc = .ok (.lsub, 1))  (k : XX G M R F cells slots ws (pc + 1) lv (.long (x - y) :: st)) : XX G M R F cells slots ws pc lv (.long y :: .long x :: st) := by
  intro p e s m args below meth c H locs ls hf hP hD hS hl
  exact lv_lsub hf.1 hf.2.1 hd  (k p e s m args below meth c H locs ls hf hP hD hS hl)
theorem XX.ldiv {x y : Int64} (hd : decode M.2.1 pc = .ok (.ldiv, 1)) (hne : ¬ y = 0) (k : XX G M R F cells slots ws (pc + 1) lv (.long (x / y) :: st)) : XX G M R F cells slots ws pc lv (.long y :: .long x :: st) := by
  intro p e s m args below meth c H locs ls hf hP hD hS hl
  exact lv_ldiv hf.1 hf.2.1 hd hne (k p e s m args below meth c H locs ls hf hP hD hS hl)
theorem XX.lcmp {x y : Int64} (hd : decode M.2.1 pc = .ok (.lcmp, 1))  (k : XX G M R F cells slots ws (pc + 1) lv (.int (lg_cmp x y) :: st)) : XX G M R F cells slots ws pc lv (.long y :: .long x :: st) := by
  intro p e s m args below meth c H locs ls hf hP hD hS hl
  exact W.lcmp hf.1 hf.2.1 hd  (k p e s m args below meth c H locs ls hf hP hD hS hl)
theorem XX.i2l {x : Int32} {v : Int64} (hd : decode M.2.1 pc = .ok (.i2l, 1)) (hv : x.toInt64 = v) (k : XX G M R F cells slots ws (pc + 1) lv (.long v :: st)) : XX G M R F cells slots ws pc lv (.int x :: st) := by
  intro p e s m args below meth c H locs ls hf hP hD hS hl
  exact lv_i2l hf.1 hf.2.1 hd hv (k p e s m args below meth c H locs ls hf hP hD hS hl)
theorem XX.l2i {x : Int64} {v : Int32} (hd : decode M.2.1 pc = .ok (.l2i, 1)) (hv : x.toInt32 = v) (k : XX G M R F cells slots ws (pc + 1) lv (.int v :: st)) : XX G M R F cells slots ws pc lv (.long x :: st) := by
  intro p e s m args below meth c H locs ls hf hP hD hS hl
  exact lv_l2i hf.1 hf.2.1 hd hv (k p e s m args below meth c H locs ls hf hP hD hS hl)
theorem XX.i2b {x : Int32} {v : Int32} (hd : decode M.2.1 pc = .ok (.i2b, 1)) (hv : x.toInt8.toInt32 = v) (k : XX G M R F cells slots ws (pc + 1) lv (.int v :: st)) : XX G M R F cells slots ws pc lv (.int x :: st) := by
  intro p e s m args below meth c H locs ls hf hP hD hS hl
  exact lv_i2b hf.1 hf.2.1 hd hv (k p e s m args below meth c H locs ls hf hP hD hS hl)
theorem XX.dup {va : Value} (hd : decode M.2.1 pc = .ok (.dup, 1)) (h1 : va.category = 1) (k : XX G M R F cells slots ws (pc + 1) lv (va :: va :: st)) : XX G M R F cells slots ws pc lv (va :: st) := by
  intro p e s m args below meth c H locs ls hf hP hD hS hl
  exact lv_dup hf.1 hf.2.1 hd h1 (k p e s m args below meth c H locs ls hf hP hD hS hl)
theorem XX.pop {va : Value} (hd : decode M.2.1 pc = .ok (.pop, 1)) (h1 : va.category = 1) (k : XX G M R F cells slots ws (pc + 1) lv (st)) : XX G M R F cells slots ws pc lv (va :: st) := by
  intro p e s m args below meth c H locs ls hf hP hD hS hl
  exact lv_pop hf.1 hf.2.1 hd h1 (k p e s m args below meth c H locs ls hf hP hD hS hl)
theorem XX.dup_x1 {va vb : Value} (hd : decode M.2.1 pc = .ok (.dup_x1, 1)) (h1 : va.category = 1) (h2 : vb.category = 1) (k : XX G M R F cells slots ws (pc + 1) lv (va :: vb :: va :: st)) : XX G M R F cells slots ws pc lv (va :: vb :: st) := by
  intro p e s m args below meth c H locs ls hf hP hD hS hl
  exact lv_dup_x1 hf.1 hf.2.1 hd h1 h2 (k p e s m args below meth c H locs ls hf hP hD hS hl)
theorem XX.dup_x2 {va vb vd : Value} (hd : decode M.2.1 pc = .ok (.dup_x2, 1)) (h1 : va.category = 1) (h2 : vb.category = 1) (h3 : vd.category = 1) (k : XX G M R F cells slots ws (pc + 1) lv (va :: vb :: vd :: va :: st)) : XX G M R F cells slots ws pc lv (va :: vb :: vd :: st) := by
  intro p e s m args below meth c H locs ls hf hP hD hS hl
  exact lv_dup_x2 hf.1 hf.2.1 hd h1 h2 h3 (k p e s m args below meth c H locs ls hf hP hD hS hl)
theorem XX.dup2 {va vb : Value} (hd : decode M.2.1 pc = .ok (.dup2, 1)) (h1 : va.category = 1) (h2 : vb.category = 1) (k : XX G M R F cells slots ws (pc + 1) lv (va :: vb :: va :: vb :: st)) : XX G M R F cells slots ws pc lv (va :: vb :: st) := by
  intro p e s m args below meth c H locs ls hf hP hD hS hl
  exact lv_dup2_11 hf.1 hf.2.1 hd h1 h2 (k p e s m args below meth c H locs ls hf hP hD hS hl)
theorem XX.ldc {idx : Nat} {v : Int32} (hd : decode M.2.1 pc = .ok (.ldc idx, 2)) (hw : Cond.constant M.1.cls idx v ∈ xw_g) (k : XX G M R F cells slots ws (pc + 2) lv (.int v :: st)) : XX G M R F cells slots ws pc lv st := by
  intro p e s m args below meth c H locs ls hf hP hD hS hl
  exact lv_ldc hf.1 hf.2.1 hf.2.2.2.2.2.1 (hf.2.2.2.2.2.2.2.2.1 _ hw args) hd (k p e s m args below meth c H locs ls hf hP hD hS hl)
theorem XX.goto {off : Int} {tgt : Nat} (hd : decode M.2.1 pc = .ok (.goto off, 3)) (ht : (pc : Int) + off = (tgt : Int)) (k : XX G M R F cells slots ws tgt lv st) : XX G M R F cells slots ws pc lv st := by
  intro p e s m args below meth c H locs ls hf hP hD hS hl
  exact lv_goto hf.1 hf.2.1 hd ht (k p e s m args below meth c H locs ls hf hP hD hS hl)
theorem XX.icmp_eq {x y : Int32} {off : Int} {tgt : Nat} (hd : decode M.2.1 pc = .ok (.if_icmp .eq off, 3)) (ht : (pc : Int) + off = (tgt : Int)) (kt : x = y → XX G M R F cells slots ws tgt lv st) (kf : ¬ x = y → XX G M R F cells slots ws (pc + 3) lv st) : XX G M R F cells slots ws pc lv (.int y :: .int x :: st) := by
  intro p e s m args below meth c H locs ls hf hP hD hS hl
  exact lv_icmp_eq hf.1 hf.2.1 hd ht (fun h => kt h p e s m args below meth c H locs ls hf hP hD hS hl) (fun h => kf h p e s m args below meth c H locs ls hf hP hD hS hl)
theorem XX.if_eq {x : Int32} {off : Int} {tgt : Nat} (hd : decode M.2.1 pc = .ok (.ifCond .eq off, 3)) (ht : (pc : Int) + off = (tgt : Int)) (kt : x = 0 → XX G M R F cells slots ws tgt lv st) (kf : ¬ x = 0 → XX G M R F cells slots ws (pc + 3) lv st) : XX G M R F cells slots ws pc lv (.int x :: st) := by
  intro p e s m args below meth c H locs ls hf hP hD hS hl
  exact lv_if_eq hf.1 hf.2.1 hd ht (fun h => kt h p e s m args below meth c H locs ls hf hP hD hS hl) (fun h => kf h p e s m args below meth c H locs ls hf hP hD hS hl)
theorem XX.ncmp_eq {a b : Nat} {off : Int} {tgt : Nat} (hd : decode M.2.1 pc = .ok (.if_icmp .eq off, 3)) (ht : (pc : Int) + off = (tgt : Int)) (ha : a < 2 ^ 31) (hb : b < 2 ^ 31) (kt : a = b → XX G M R F cells slots ws tgt lv st) (kf : a ≠ b → XX G M R F cells slots ws (pc + 3) lv st) : XX G M R F cells slots ws pc lv (.int (nI b) :: .int (nI a) :: st) := by
  have z := pk_eq (x := nI a) (y := nI b) a b (A := XX G M R F cells slots ws tgt lv st) (B := XX G M R F cells slots ws (pc + 3) lv st) (fun h => kt h) (fun h => kf h) rfl rfl ha hb
  exact XX.icmp_eq hd ht z.1 z.2
theorem XX.nif_eq {a : Nat} {off : Int} {tgt : Nat} (hd : decode M.2.1 pc = .ok (.ifCond .eq off, 3)) (ht : (pc : Int) + off = (tgt : Int)) (ha : a < 2 ^ 31) (kt : a = 0 → XX G M R F cells slots ws tgt lv st) (kf : 0 < a → XX G M R F cells slots ws (pc + 3) lv st) : XX G M R F cells slots ws pc lv (.int (nI a) :: st) := by
  have z := pk_eq (x := nI a) (y := (0 : Int32)) a 0 (A := XX G M R F cells slots ws tgt lv st) (B := XX G M R F cells slots ws (pc + 3) lv st) (fun h => kt (by omega)) (fun h => kf (by omega)) rfl rfl ha (by decide)
  exact XX.if_eq hd ht z.1 z.2
theorem XX.icmp_ne {x y : Int32} {off : Int} {tgt : Nat} (hd : decode M.2.1 pc = .ok (.if_icmp .ne off, 3)) (ht : (pc : Int) + off = (tgt : Int)) (kt : ¬ x = y → XX G M R F cells slots ws tgt lv st) (kf : x = y → XX G M R F cells slots ws (pc + 3) lv st) : XX G M R F cells slots ws pc lv (.int y :: .int x :: st) := by
  intro p e s m args below meth c H locs ls hf hP hD hS hl
  exact lv_icmp_ne hf.1 hf.2.1 hd ht (fun h => kt h p e s m args below meth c H locs ls hf hP hD hS hl) (fun h => kf h p e s m args below meth c H locs ls hf hP hD hS hl)
theorem XX.if_ne {x : Int32} {off : Int} {tgt : Nat} (hd : decode M.2.1 pc = .ok (.ifCond .ne off, 3)) (ht : (pc : Int) + off = (tgt : Int)) (kt : ¬ x = 0 → XX G M R F cells slots ws tgt lv st) (kf : x = 0 → XX G M R F cells slots ws (pc + 3) lv st) : XX G M R F cells slots ws pc lv (.int x :: st) := by
  intro p e s m args below meth c H locs ls hf hP hD hS hl
  exact lv_if_ne hf.1 hf.2.1 hd ht (fun h => kt h p e s m args below meth c H locs ls hf hP hD hS hl) (fun h => kf h p e s m args below meth c H locs ls hf hP hD hS hl)
theorem XX.ncmp_ne {a b : Nat} {off : Int} {tgt : Nat} (hd : decode M.2.1 pc = .ok (.if_icmp .ne off, 3)) (ht : (pc : Int) + off = (tgt : Int)) (ha : a < 2 ^ 31) (hb : b < 2 ^ 31) (kt : a ≠ b → XX G M R F cells slots ws tgt lv st) (kf : a = b → XX G M R F cells slots ws (pc + 3) lv st) : XX G M R F cells slots ws pc lv (.int (nI b) :: .int (nI a) :: st) := by
  have z := pk_eq (x := nI a) (y := nI b) a b (A := XX G M R F cells slots ws (pc + 3) lv st) (B := XX G M R F cells slots ws tgt lv st) (fun h => kf h) (fun h => kt h) rfl rfl ha hb
  exact XX.icmp_ne hd ht z.2 z.1
theorem XX.nif_ne {a : Nat} {off : Int} {tgt : Nat} (hd : decode M.2.1 pc = .ok (.ifCond .ne off, 3)) (ht : (pc : Int) + off = (tgt : Int)) (ha : a < 2 ^ 31) (kt : 0 < a → XX G M R F cells slots ws tgt lv st) (kf : a = 0 → XX G M R F cells slots ws (pc + 3) lv st) : XX G M R F cells slots ws pc lv (.int (nI a) :: st) := by
  have z := pk_eq (x := nI a) (y := (0 : Int32)) a 0 (A := XX G M R F cells slots ws (pc + 3) lv st) (B := XX G M R F cells slots ws tgt lv st) (fun h => kf (by omega)) (fun h => kt (by omega)) rfl rfl ha (by decide)
  exact XX.if_ne hd ht z.2 z.1
theorem XX.icmp_lt {x y : Int32} {off : Int} {tgt : Nat} (hd : decode M.2.1 pc = .ok (.if_icmp .lt off, 3)) (ht : (pc : Int) + off = (tgt : Int)) (kt : x < y → XX G M R F cells slots ws tgt lv st) (kf : ¬ x < y → XX G M R F cells slots ws (pc + 3) lv st) : XX G M R F cells slots ws pc lv (.int y :: .int x :: st) := by
  intro p e s m args below meth c H locs ls hf hP hD hS hl
  exact lv_icmp_lt hf.1 hf.2.1 hd ht (fun h => kt h p e s m args below meth c H locs ls hf hP hD hS hl) (fun h => kf h p e s m args below meth c H locs ls hf hP hD hS hl)
theorem XX.if_lt {x : Int32} {off : Int} {tgt : Nat} (hd : decode M.2.1 pc = .ok (.ifCond .lt off, 3)) (ht : (pc : Int) + off = (tgt : Int)) (kt : x < 0 → XX G M R F cells slots ws tgt lv st) (kf : ¬ x < 0 → XX G M R F cells slots ws (pc + 3) lv st) : XX G M R F cells slots ws pc lv (.int x :: st) := by
  intro p e s m args below meth c H locs ls hf hP hD hS hl
  exact lv_if_lt hf.1 hf.2.1 hd ht (fun h => kt h p e s m args below meth c H locs ls hf hP hD hS hl) (fun h => kf h p e s m args below meth c H locs ls hf hP hD hS hl)
theorem XX.ncmp_lt {a b : Nat} {off : Int} {tgt : Nat} (hd : decode M.2.1 pc = .ok (.if_icmp .lt off, 3)) (ht : (pc : Int) + off = (tgt : Int)) (ha : a < 2 ^ 31) (hb : b < 2 ^ 31) (kt : a < b → XX G M R F cells slots ws tgt lv st) (kf : b ≤ a → XX G M R F cells slots ws (pc + 3) lv st) : XX G M R F cells slots ws pc lv (.int (nI b) :: .int (nI a) :: st) := by
  have z := pk_lt (x := nI a) (y := nI b) a b (A := XX G M R F cells slots ws tgt lv st) (B := XX G M R F cells slots ws (pc + 3) lv st) (fun h => kt h) (fun h => kf h) rfl rfl ha hb
  exact XX.icmp_lt hd ht z.1 z.2
theorem XX.icmp_ge {x y : Int32} {off : Int} {tgt : Nat} (hd : decode M.2.1 pc = .ok (.if_icmp .ge off, 3)) (ht : (pc : Int) + off = (tgt : Int)) (kt : y ≤ x → XX G M R F cells slots ws tgt lv st) (kf : ¬ y ≤ x → XX G M R F cells slots ws (pc + 3) lv st) : XX G M R F cells slots ws pc lv (.int y :: .int x :: st) := by
  intro p e s m args below meth c H locs ls hf hP hD hS hl
  exact lv_icmp_ge hf.1 hf.2.1 hd ht (fun h => kt h p e s m args below meth c H locs ls hf hP hD hS hl) (fun h => kf h p e s m args below meth c H locs ls hf hP hD hS hl)
theorem XX.if_ge {x : Int32} {off : Int} {tgt : Nat} (hd : decode M.2.1 pc = .ok (.ifCond .ge off, 3)) (ht : (pc : Int) + off = (tgt : Int)) (kt : 0 ≤ x → XX G M R F cells slots ws tgt lv st) (kf : ¬ 0 ≤ x → XX G M R F cells slots ws (pc + 3) lv st) : XX G M R F cells slots ws pc lv (.int x :: st) := by
  intro p e s m args below meth c H locs ls hf hP hD hS hl
  exact lv_if_ge hf.1 hf.2.1 hd ht (fun h => kt h p e s m args below meth c H locs ls hf hP hD hS hl) (fun h => kf h p e s m args below meth c H locs ls hf hP hD hS hl)
theorem XX.ncmp_ge {a b : Nat} {off : Int} {tgt : Nat} (hd : decode M.2.1 pc = .ok (.if_icmp .ge off, 3)) (ht : (pc : Int) + off = (tgt : Int)) (ha : a < 2 ^ 31) (hb : b < 2 ^ 31) (kt : b ≤ a → XX G M R F cells slots ws tgt lv st) (kf : a < b → XX G M R F cells slots ws (pc + 3) lv st) : XX G M R F cells slots ws pc lv (.int (nI b) :: .int (nI a) :: st) := by
  have z := pk_le (x := nI b) (y := nI a) b a (A := XX G M R F cells slots ws tgt lv st) (B := XX G M R F cells slots ws (pc + 3) lv st) (fun h => kt h) (fun h => kf h) rfl rfl hb ha
  exact XX.icmp_ge hd ht z.1 z.2
theorem XX.icmp_gt {x y : Int32} {off : Int} {tgt : Nat} (hd : decode M.2.1 pc = .ok (.if_icmp .gt off, 3)) (ht : (pc : Int) + off = (tgt : Int)) (kt : y < x → XX G M R F cells slots ws tgt lv st) (kf : ¬ y < x → XX G M R F cells slots ws (pc + 3) lv st) : XX G M R F cells slots ws pc lv (.int y :: .int x :: st) := by
  intro p e s m args below meth c H locs ls hf hP hD hS hl
  exact lv_icmp_gt hf.1 hf.2.1 hd ht (fun h => kt h p e s m args below meth c H locs ls hf hP hD hS hl) (fun h => kf h p e s m args below meth c H locs ls hf hP hD hS hl)
theorem XX.if_gt {x : Int32} {off : Int} {tgt : Nat} (hd : decode M.2.1 pc = .ok (.ifCond .gt off, 3)) (ht : (pc : Int) + off = (tgt : Int)) (kt : 0 < x → XX G M R F cells slots ws tgt lv st) (kf : ¬ 0 < x → XX G M R F cells slots ws (pc + 3) lv st) : XX G M R F cells slots ws pc lv (.int x :: st) := by
  intro p e s m args below meth c H locs ls hf hP hD hS hl
  exact lv_if_gt hf.1 hf.2.1 hd ht (fun h => kt h p e s m args below meth c H locs ls hf hP hD hS hl) (fun h => kf h p e s m args below meth c H locs ls hf hP hD hS hl)
theorem XX.ncmp_gt {a b : Nat} {off : Int} {tgt : Nat} (hd : decode M.2.1 pc = .ok (.if_icmp .gt off, 3)) (ht : (pc : Int) + off = (tgt : Int)) (ha : a < 2 ^ 31) (hb : b < 2 ^ 31) (kt : b < a → XX G M R F cells slots ws tgt lv st) (kf : a ≤ b → XX G M R F cells slots ws (pc + 3) lv st) : XX G M R F cells slots ws pc lv (.int (nI b) :: .int (nI a) :: st) := by
  have z := pk_lt (x := nI b) (y := nI a) b a (A := XX G M R F cells slots ws tgt lv st) (B := XX G M R F cells slots ws (pc + 3) lv st) (fun h => kt h) (fun h => kf h) rfl rfl hb ha
  exact XX.icmp_gt hd ht z.1 z.2
theorem XX.nif_gt {a : Nat} {off : Int} {tgt : Nat} (hd : decode M.2.1 pc = .ok (.ifCond .gt off, 3)) (ht : (pc : Int) + off = (tgt : Int)) (ha : a < 2 ^ 31) (kt : 0 < a → XX G M R F cells slots ws tgt lv st) (kf : a = 0 → XX G M R F cells slots ws (pc + 3) lv st) : XX G M R F cells slots ws pc lv (.int (nI a) :: st) := by
  have z := pk_lt (x := (0 : Int32)) (y := nI a) 0 a (A := XX G M R F cells slots ws tgt lv st) (B := XX G M R F cells slots ws (pc + 3) lv st) (fun h => kt (by omega)) (fun h => kf (by omega)) rfl rfl (by decide) ha
  exact XX.if_gt hd ht z.1 z.2
theorem XX.icmp_le {x y : Int32} {off : Int} {tgt : Nat} (hd : decode M.2.1 pc = .ok (.if_icmp .le off, 3)) (ht : (pc : Int) + off = (tgt : Int)) (kt : x ≤ y → XX G M R F cells slots ws tgt lv st) (kf : ¬ x ≤ y → XX G M R F cells slots ws (pc + 3) lv st) : XX G M R F cells slots ws pc lv (.int y :: .int x :: st) := by
  intro p e s m args below meth c H locs ls hf hP hD hS hl
  exact lv_icmp_le hf.1 hf.2.1 hd ht (fun h => kt h p e s m args below meth c H locs ls hf hP hD hS hl) (fun h => kf h p e s m args below meth c H locs ls hf hP hD hS hl)
theorem XX.if_le {x : Int32} {off : Int} {tgt : Nat} (hd : decode M.2.1 pc = .ok (.ifCond .le off, 3)) (ht : (pc : Int) + off = (tgt : Int)) (kt : x ≤ 0 → XX G M R F cells slots ws tgt lv st) (kf : ¬ x ≤ 0 → XX G M R F cells slots ws (pc + 3) lv st) : XX G M R F cells slots ws pc lv (.int x :: st) := by
  intro p e s m args below meth c H locs ls hf hP hD hS hl
  exact lv_if_le hf.1 hf.2.1 hd ht (fun h => kt h p e s m args below meth c H locs ls hf hP hD hS hl) (fun h => kf h p e s m args below meth c H locs ls hf hP hD hS hl)
theorem XX.ncmp_le {a b : Nat} {off : Int} {tgt : Nat} (hd : decode M.2.1 pc = .ok (.if_icmp .le off, 3)) (ht : (pc : Int) + off = (tgt : Int)) (ha : a < 2 ^ 31) (hb : b < 2 ^ 31) (kt : a ≤ b → XX G M R F cells slots ws tgt lv st) (kf : b < a → XX G M R F cells slots ws (pc + 3) lv st) : XX G M R F cells slots ws pc lv (.int (nI b) :: .int (nI a) :: st) := by
  have z := pk_le (x := nI a) (y := nI b) a b (A := XX G M R F cells slots ws tgt lv st) (B := XX G M R F cells slots ws (pc + 3) lv st) (fun h => kt h) (fun h => kf h) rfl rfl ha hb
  exact XX.icmp_le hd ht z.1 z.2
theorem XX.nif_le {a : Nat} {off : Int} {tgt : Nat} (hd : decode M.2.1 pc = .ok (.ifCond .le off, 3)) (ht : (pc : Int) + off = (tgt : Int)) (ha : a < 2 ^ 31) (kt : a = 0 → XX G M R F cells slots ws tgt lv st) (kf : 0 < a → XX G M R F cells slots ws (pc + 3) lv st) : XX G M R F cells slots ws pc lv (.int (nI a) :: st) := by
  have z := pk_le (x := nI a) (y := (0 : Int32)) a 0 (A := XX G M R F cells slots ws tgt lv st) (B := XX G M R F cells slots ws (pc + 3) lv st) (fun h => kt (by omega)) (fun h => kf (by omega)) rfl rfl ha (by decide)
  exact XX.if_le hd ht z.1 z.2
theorem XX.tabIn {dflt lo hi : Int} {offs : Array Int} {len : Nat} {x : Int32} {off : Int} {tgt : Nat} (hd : decode M.2.1 pc = .ok (.tableswitch dflt lo hi offs, len)) (h1 : ¬ x.toInt < lo) (h2 : ¬ hi < x.toInt) (ho : offs[(x.toInt - lo).toNat]? = some off) (ht : (pc : Int) + off = (tgt : Int)) (k : XX G M R F cells slots ws tgt lv st) : XX G M R F cells slots ws pc lv (.int x :: st) := by
  intro p e s m args below meth c H locs ls hf hP hD hS hl
  exact lv_tableIn hf.1 hf.2.1 hd h1 h2 ho ht (k p e s m args below meth c H locs ls hf hP hD hS hl)
theorem XX.tabOut {dflt lo hi : Int} {offs : Array Int} {len : Nat} {x : Int32} {tgt : Nat} (hd : decode M.2.1 pc = .ok (.tableswitch dflt lo hi offs, len)) (h : x.toInt < lo ∨ hi < x.toInt) (ht : (pc : Int) + dflt = (tgt : Int)) (k : XX G M R F cells slots ws tgt lv st) : XX G M R F cells slots ws pc lv (.int x :: st) := by
  intro p e s m args below meth c H locs ls hf hP hD hS hl
  exact lv_tableOut hf.1 hf.2.1 hd h ht (k p e s m args below meth c H locs ls hf hP hD hS hl)
theorem XX.tp {x y : Int32} (h : x = y) (k : XX G M R F cells slots ws pc lv (.int y :: st)) : XX G M R F cells slots ws pc lv (.int x :: st) := by rw [h]; exact k
theorem XX.cg {ws2 : va_W} {lv2 : List (Nat × Value)} {st2 : List Value} (h1 : ws = ws2) (h2 : lv = lv2) (h3 : st = st2) (k : XX G M R F cells slots ws2 pc lv2 st2) : XX G M R F cells slots ws pc lv st := by rw [h1, h2, h3]; exact k
/-- fewer locals -/
theorem XX.lvs {lv2 : List (Nat × Value)} (is : List Nat) (h : lv_pick lv is = lv2) (k : XX G M R F cells slots ws pc lv2 st) : XX G M R F cells slots ws pc lv st := by
  intro p e s m args below meth c H locs ls hf hP hD hS hl
  exact k p e s m args below meth c H locs ls hf hP hD hS (lv_sub hl is h)
/-- another world: a part, or in another order -/
theorem XX.sub {ws2 : va_W} (is : List Nat) (h1 : is.filterMap (fun i => ws[i]?) = ws2) (hn : va_nd is = true) (h2 : is.map (fun i => ws[i]?) = ws2.map some) (k : XX G M R F cells slots ws2 pc lv st) : XX G M R F cells slots ws pc lv st := by
  intro p e s m args below meth c H locs ls hf hP hD hS hl
  exact k p e s m args below meth c H locs ls hf (hP.sub is h1) (hD.sub is hn h2) hS hl
theorem XX.wm {ws2 : va_W} (h1 : ∀ H : Heap, va_P G.1 xc_cl ws H → va_P G.1 xc_cl ws2 H) (h2 : va_D (xg_A G) ws → va_D (xg_A G) ws2) (k : XX G M R F cells slots ws2 pc lv st) : XX G M R F cells slots ws pc lv st := by
  intro p e s m args below meth c H locs ls hf hP hD hS hl
  exact k p e s m args below meth c H locs ls hf (h1 H hP) (h2 hD) hS hl
theorem XX.apart {a b : Nat} {q0 q1 : Nat} {x y : va_E} (h0 : ws[q0]? = some (a, x)) (h1 : ws[q1]? = some (b, y)) (hne : q0 ≠ q1) (k : a ≠ b → XX G M R F cells slots ws pc lv st) : XX G M R F cells slots ws pc lv st := by
  intro p e s m args below meth c H locs ls hf hP hD hS hl
  exact k (fun h => hne (hD.1 q0 q1 _ _ h0 h1 h)) p e s m args below meth c H locs ls hf hP hD hS hl
theorem XX.widen {c2 s2 : Nat} (h1 : cells ≤ c2) (h2 : slots ≤ s2) (k : XX G M R F c2 s2 ws pc lv st) : XX G M R F cells slots ws pc lv st := by
  intro p e s m args below meth c H locs ls hf hP hD hS hl
  exact W.widen h1 h2 (k p e s m args below meth c H locs ls hf hP hD hS hl)
theorem XX.get {idx ci f q0 a : Nat} {fs : List Value} {v : Value} (hl0 : xx_fl M.1.cls idx ci f) (hd : decode M.2.1 pc = .ok (.getfield idx, 3)) (he : ws[q0]? = some (a, .inr (ci, fs))) (hv : fs[f]? = some v) (k : XX G M R F cells slots ws (pc + 3) lv (v :: st)) : XX G M R F cells slots ws pc lv (.ref a :: st) := by
  intro p e s m args below meth c H locs ls hf hP hD hS hl
  obtain ⟨C, T, N, ty, hcf, hk, hlk⟩ := hl0
  have hen := hf.2.2.2.2.2.2.2.2
  have hts : ∀ w ∈ xw_g, w.before args s = true := fun w h => hen.1 w h args
  rcases hlk with hlk | ⟨host, hlk⟩
  · exact va_get (D := G.1) hf.1 hf.2.1 hts hcf.2.1 hf.2.2.2.2.2.1 hen.2.2 hP q0 he hcf.1 f hk (hts _ hlk) (fun _ h => h) hv hd (k p e s m args below meth c H locs ls hf hP hD hS hl)
  · exact va_getN (D := G.1) hf.1 hf.2.1 hts hcf.2.1 hf.2.2.2.2.2.1 hen.2.2 hP q0 he hcf.1 f hk (va_Nw.use rfl (hen.2.1.1 _ hlk)) (fun _ h => h) hv hd (k p e s m args below meth c H locs ls hf hP hD hS hl)
theorem XX.put {idx ci f q0 a : Nat} {fs : List Value} {t : FieldType} {v : Value} {ws2 : va_W} (hl0 : xx_fp M.1.cls idx ci f t) (hd : decode M.2.1 pc = .ok (.putfield idx, 3)) (he : ws[q0]? = some (a, .inr (ci, fs))) (hn : narrow t v = v) (hfit : fits t v = true) (hlt : f < fs.length) (h2 : ws.set q0 (a, .inr (ci, fs.set f v)) = ws2) (k : XX G M R F cells slots ws2 (pc + 3) lv st) : XX G M R F cells slots ws pc lv (v :: .ref a :: st) := by
  intro p e s m args below meth c H locs ls hf hP hD hS hl
  subst h2
  obtain ⟨C, T, N, ty, hcf, hk, hfin, htt, hlk⟩ := hl0
  have hen := hf.2.2.2.2.2.2.2.2
  have hts : ∀ w ∈ xw_g, w.before args s = true := fun w h => hen.1 w h args
  rcases hlk with hlk | ⟨host, hlk⟩
  · exact va_put (D := G.1) hf.1 hf.2.1 hts hcf.2.1 ty hcf.2.2.1 hcf.2.2.2 hf.2.2.2.2.2.1 hen.2.2 hP hD hS q0 he hcf.1 f hk (hts _ hlk) (fun _ h => h) hfin htt hn hfit hlt hd (fun H1 locs1 hP1 hD1 hS1 => k p e s m args below meth c H1 locs1 ls hf hP1 hD1 hS1 hl)
  · exact va_putN (D := G.1) hf.1 hf.2.1 hts hcf.2.1 ty hcf.2.2.1 hcf.2.2.2 hf.2.2.2.2.2.1 hen.2.2 hP hD hS q0 he hcf.1 f hk (va_Nw.use rfl (hen.2.1.1 _ hlk)) (fun _ h => h) hfin htt hn hfit hlt hd (fun H1 locs1 hP1 hD1 hS1 => k p e s m args below meth c H1 locs1 ls hf hP1 hD1 hS1 hl)
theorem XX.putF {idx ci f q0 a : Nat} {fs : List Value} {t : FieldType} {v : Value} {ws2 : va_W} (hl0 : xx_ff M.1.cls idx ci f t) (hin : M.1.name = "<init>") (hd : decode M.2.1 pc = .ok (.putfield idx, 3)) (he : ws[q0]? = some (a, .inr (ci, fs))) (hn : narrow t v = v) (hfit : fits t v = true) (hlt : f < fs.length) (h2 : ws.set q0 (a, .inr (ci, fs.set f v)) = ws2) (k : XX G M R F cells slots ws2 (pc + 3) lv st) : XX G M R F cells slots ws pc lv (v :: .ref a :: st) := by
  intro p e s m args below meth c H locs ls hf hP hD hS hl
  subst h2
  obtain ⟨C, T, N, ty, hcf, hk, hfin, hown, htt, hlk⟩ := hl0
  have hen := hf.2.2.2.2.2.2.2.2
  have hts : ∀ w ∈ xw_g, w.before args s = true := fun w h => hen.1 w h args
  have hin9 : meth.name = "<init>" := by
    rcases hf.2.2.2.2.2.2.1 with h | h
    · exact h.1.trans hin
    · rw [hin] at h; exact absurd h (by decide)
  exact va_putF (D := G.1) hf.1 hf.2.1 hts hcf.2.1 ty hcf.2.2.1 hcf.2.2.2 hf.2.2.2.2.2.1 hen.2.2 hP hD hS q0 he hcf.1 f hk (hts _ hlk) (fun _ h => h) hfin hin9 hown htt hn hfit hlt hd (fun H1 locs1 hP1 hD1 hS1 => k p e s m args below meth c H1 locs1 ls hf hP1 hD1 hS1 hl)
theorem XX.new {idx ci N : Nat} {fs : List Value} (h0 : xx_nw M.1.cls idx ci fs N) (hd : decode M.2.1 pc = .ok (.new idx, 3)) (hc : cells + 1 ≤ R.cells ∧ slots + N ≤ R.slots) (k : ∀ q : Nat, XX G M R F (cells + 1) (slots + N) (ws ++ [(q, .inr (ci, fs))]) (pc + 3) lv (.ref q :: st)) : XX G M R F cells slots ws pc lv st := by
  intro p e s m args below meth c H locs ls hf hP hD hS hl
  obtain ⟨C, T, ty, hcf, h1, h2, h3, h4⟩ := h0
  have hen := hf.2.2.2.2.2.2.2.2
  have hts : ∀ w ∈ xw_g, w.before args s = true := fun w h => hen.1 w h args
  exact va_new (D := G.1) hf.1 hf.2.1 hts hcf.2.1 ty hcf.2.2.1 hf.2.2.2.2.2.1 (hts _ h1) (hts _ h2) (hts _ h3) hen.2.2 hP hD hS (fun q h => Nat.le_trans hf.2.2.2.2.2.2.2.1 h) hcf.1 h4 hc.1 hc.2 hd (fun q H1 hP1 hD1 hS1 => k q p e s m args below meth c H1 locs ls hf hP1 hD1 hS1 hl)
theorem XX.iald {q0 a n j : Nat} {f : Nat → Int32} (hd : decode M.2.1 pc = .ok (.iaload, 1)) (he : ws[q0]? = some (a, .inl (G.2.1 1, n, .inl f))) (hj : j < n) (hn : n < 2 ^ 31) (k : XX G M R F cells slots ws (pc + 1) lv (.int (f j) :: st)) : XX G M R F cells slots ws pc lv (.int (nI j) :: .ref a :: st) := by
  intro p e s m args below meth c H locs ls hf hP hD hS hl
  refine va_iald (D := G.1) hf.1 hf.2.1 hf.2.2.2.2.2.2.2.2.2.2 hP q0 1 he rfl (pk_in j n hj rfl hn) hd ?_
  rw [pk_cl j rfl (by omega)]
  exact k p e s m args below meth c H locs ls hf hP hD hS hl
theorem XX.bald {q0 a n j : Nat} {f : Nat → Int32} (hd : decode M.2.1 pc = .ok (.baload, 1)) (he : ws[q0]? = some (a, .inl (G.2.1 0, n, .inl f))) (hj : j < n) (hn : n < 2 ^ 31) (k : XX G M R F cells slots ws (pc + 1) lv (.int (f j) :: st)) : XX G M R F cells slots ws pc lv (.int (nI j) :: .ref a :: st) := by
  intro p e s m args below meth c H locs ls hf hP hD hS hl
  refine va_bald (D := G.1) hf.1 hf.2.1 hf.2.2.2.2.2.2.2.2.2.2 hP q0 0 he rfl (pk_in j n hj rfl hn) hd ?_
  rw [pk_cl j rfl (by omega)]
  exact k p e s m args below meth c H locs ls hf hP hD hS hl
theorem XX.lald {q0 a n j : Nat} {f : Nat → Int64} (hd : decode M.2.1 pc = .ok (.laload, 1)) (he : ws[q0]? = some (a, .inl (G.2.1 2, n, .inr (.inl f)))) (hj : j < n) (hn : n < 2 ^ 31) (k : XX G M R F cells slots ws (pc + 1) lv (.long (f j) :: st)) : XX G M R F cells slots ws pc lv (.int (nI j) :: .ref a :: st) := by
  intro p e s m args below meth c H locs ls hf hP hD hS hl
  refine va_lald (D := G.1) hf.1 hf.2.1 hf.2.2.2.2.2.2.2.2.2.2 hP q0 2 he rfl (pk_in j n hj rfl hn) hd ?_
  rw [pk_cl j rfl (by omega)]
  exact k p e s m args below meth c H locs ls hf hP hD hS hl
theorem XX.iast {q0 a n j : Nat} {f : Nat → Int32} {x : Int32} {ws2 : va_W} (hd : decode M.2.1 pc = .ok (.iastore, 1)) (he : ws[q0]? = some (a, .inl (G.2.1 1, n, .inl f))) (hj : j < n) (hn : n < 2 ^ 31) (h2 : ws.set q0 (a, .inl (G.2.1 1, n, .inl (upd f j x))) = ws2) (k : XX G M R F cells slots ws2 (pc + 1) lv st) : XX G M R F cells slots ws pc lv (.int x :: .int (nI j) :: .ref a :: st) := by
  intro p e s m args below meth c H locs ls hf hP hD hS hl
  subst h2
  refine va_iast (D := G.1) hf.1 hf.2.1 hf.2.2.2.2.2.2.2.2.2.2 hP hD hS q0 1 he rfl (pk_in j n hj rfl hn) hd ?_
  rw [pk_cl j rfl (by omega)]
  exact (fun H1 locs1 hP1 hD1 hS1 => k p e s m args below meth c H1 locs1 ls hf hP1 hD1 hS1 hl)
theorem XX.bast {q0 a n j : Nat} {f : Nat → Int32} {x : Int32} {ws2 : va_W} (hd : decode M.2.1 pc = .ok (.bastore, 1)) (he : ws[q0]? = some (a, .inl (G.2.1 0, n, .inl f))) (hj : j < n) (hn : n < 2 ^ 31) (h2 : ws.set q0 (a, .inl (G.2.1 0, n, .inl (upd f j (vp_nar .byte x)))) = ws2) (k : XX G M R F cells slots ws2 (pc + 1) lv st) : XX G M R F cells slots ws pc lv (.int x :: .int (nI j) :: .ref a :: st) := by
  intro p e s m args below meth c H locs ls hf hP hD hS hl
  subst h2
  refine va_bast (D := G.1) hf.1 hf.2.1 hf.2.2.2.2.2.2.2.2.2.2 hP hD hS q0 0 he rfl (pk_in j n hj rfl hn) hd ?_
  rw [pk_cl j rfl (by omega)]
  exact (fun H1 locs1 hP1 hD1 hS1 => k p e s m args below meth c H1 locs1 ls hf hP1 hD1 hS1 hl)
theorem XX.last {q0 a n j : Nat} {f : Nat → Int64} {x : Int64} {ws2 : va_W} (hd : decode M.2.1 pc = .ok (.lastore, 1)) (he : ws[q0]? = some (a, .inl (G.2.1 2, n, .inr (.inl f)))) (hj : j < n) (hn : n < 2 ^ 31) (h2 : ws.set q0 (a, .inl (G.2.1 2, n, .inr (.inl (vp_updL f j x)))) = ws2) (k : XX G M R F cells slots ws2 (pc + 1) lv st) : XX G M R F cells slots ws pc lv (.long x :: .int (nI j) :: .ref a :: st) := by
  intro p e s m args below meth c H locs ls hf hP hD hS hl
  subst h2
  refine va_last (D := G.1) hf.1 hf.2.1 hf.2.2.2.2.2.2.2.2.2.2 hP hD hS q0 2 he rfl (pk_in j n hj rfl hn) hd ?_
  rw [pk_cl j rfl (by omega)]
  exact (fun H1 locs1 hP1 hD1 hS1 => k p e s m args below meth c H1 locs1 ls hf hP1 hD1 hS1 hl)
theorem XX.aald {q0 a n j : Nat} {f : Nat → Option Nat} (hd : decode M.2.1 pc = .ok (.aaload, 1)) (he : ws[q0]? = some (a, .inl (G.2.1 3, n, .inr (.inr (.inr (.inr f)))))) (hj : j < n) (hn : n < 2 ^ 31) (k : XX G M R F cells slots ws (pc + 1) lv (va_rf (f j) :: st)) : XX G M R F cells slots ws pc lv (.int (nI j) :: .ref a :: st) := by
  intro p e s m args below meth c H locs ls hf hP hD hS hl
  refine va_aldq (D := G.1) hf.1 hf.2.1 hf.2.2.2.2.2.2.2.2.2.2 hP q0 3 he rfl (pk_in j n hj rfl hn) hd ?_
  rw [pk_cl j rfl (by omega)]
  exact k p e s m args below meth c H locs ls hf hP hD hS hl
theorem XX.aast {q0 qk a n j v : Nat} {vs : List Value} {f : Nat → Option Nat} {r : vw_C} {ws2 : va_W} {ci : Nat} (hd : decode M.2.1 pc = .ok (.aastore, 1)) (he : ws[q0]? = some (a, .inl (G.2.1 3, n, .inr (.inr (.inr (.inr f)))))) (hv : ws[qk]? = some (v, .inr (ci, vs))) (hc : xc_cl[ci]? = some r) (hr : r.1 = "LineSorter$Key") (hj : j < n) (hn : n < 2 ^ 31) (h2 : ws.set q0 (a, .inl (G.2.1 3, n, .inr (.inr (.inr (.inr (va_up f j (some v))))))) = ws2) (k : XX G M R F cells slots ws2 (pc + 1) lv st) : XX G M R F cells slots ws pc lv (.ref v :: .int (nI j) :: .ref a :: st) := by
  intro p e s m args below meth c H locs ls hf hP hD hS hl
  subst h2
  refine va_astq (D := G.1) (r := r) (v := v) hf.1 hf.2.1 hf.2.2.2.2.2.2.2.2.2.2 hP hD hS q0 3 qk ci he (by rw [hr]; rfl) hv hc (pk_in j n hj rfl hn) hd ?_
  rw [pk_cl j rfl (by omega)]
  exact (fun H1 locs1 hP1 hD1 hS1 => k p e s m args below meth c H1 locs1 ls hf hP1 hD1 hS1 hl)
theorem XX.alen {q0 a t0 : Nat} {x : vp_A} {ty : FieldType} (hd : decode M.2.1 pc = .ok (.arraylength, 1)) (he : ws[q0]? = some (a, .inl (G.2.1 t0, x))) (ht : (xg_ty G)[t0]? = some (G.2.1 t0, ty)) (k : XX G M R F cells slots ws (pc + 1) lv (.int (nI x.1) :: st)) : XX G M R F cells slots ws pc lv (.ref a :: st) := by
  intro p e s m args below meth c H locs ls hf hP hD hS hl
  exact va_alen (D := G.1) hf.1 hf.2.1 hf.2.2.2.2.2.2.2.2.2.2 hP q0 t0 he ht rfl hd (k p e s m args below meth c H locs ls hf hP hD hS hl)
theorem XX.newI {n : Nat} (hd : decode M.2.1 pc = .ok (.newarray .int, 2)) (hw : Cond.arrayClass .int ∈ xw_g) (hn : n < 60000000) (hc : cells + 1 ≤ R.cells ∧ slots + n ≤ R.slots) (k : ∀ q : Nat, XX G M R F (cells + 1) (slots + n) (ws ++ [(q, .inl (G.2.1 1, n, .inl (fun _ => 0)))]) (pc + 2) lv (.ref q :: st)) : XX G M R F cells slots ws pc lv (.int (nI n) :: st) := by
  intro p e s m args below meth c H locs ls hf hP hD hS hl
  have hen := hf.2.2.2.2.2.2.2.2
  have hts : ∀ w ∈ xw_g, w.before args s = true := fun w h => hen.1 w h args
  refine va_newa (D := G.1) (atype := .int) (ty := .int) (a0 := (n, .inl (fun _ => 0))) hf.1 hf.2.1 (hts _ hw) rfl hen.2.2 hP hD hS (fun q h => Nat.le_trans hf.2.2.2.2.2.2.2.1 h) (fun _ => rfl) (nI_pos (by omega)) (nI_clamp (by omega)) (by show n * 4 ≤ _; omega) hc.1 hc.2 hd (fun q cA H1 hK1 hP1 hD1 hS1 => ?_)
  have e1 : s.vm.findClass ("[" ++ FieldType.toString .int) = some cA := (hK1.2 4 _ rfl).2
  have e2 : s.vm.findClass ("[" ++ FieldType.toString .int) = some (G.2.1 1) := (hen.2.2.2 1 _ rfl).2
  have e3 : cA = G.2.1 1 := Option.some.inj (e1.symm.trans e2)
  subst e3
  exact k q p e s m args below meth c H1 locs ls hf hP1 hD1 hS1 hl
theorem XX.newB {n : Nat} (hd : decode M.2.1 pc = .ok (.newarray .byte, 2)) (hw : Cond.arrayClass .byte ∈ xw_g) (hn : n < 60000000) (hc : cells + 1 ≤ R.cells ∧ slots + n ≤ R.slots) (k : ∀ q : Nat, XX G M R F (cells + 1) (slots + n) (ws ++ [(q, .inl (G.2.1 0, n, .inl (fun _ => 0)))]) (pc + 2) lv (.ref q :: st)) : XX G M R F cells slots ws pc lv (.int (nI n) :: st) := by
  intro p e s m args below meth c H locs ls hf hP hD hS hl
  have hen := hf.2.2.2.2.2.2.2.2
  have hts : ∀ w ∈ xw_g, w.before args s = true := fun w h => hen.1 w h args
  refine va_newa (D := G.1) (atype := .byte) (ty := .byte) (a0 := (n, .inl (fun _ => 0))) hf.1 hf.2.1 (hts _ hw) rfl hen.2.2 hP hD hS (fun q h => Nat.le_trans hf.2.2.2.2.2.2.2.1 h) (fun _ => rfl) (nI_pos (by omega)) (nI_clamp (by omega)) (by show n * 1 ≤ _; omega) hc.1 hc.2 hd (fun q cA H1 hK1 hP1 hD1 hS1 => ?_)
  have e1 : s.vm.findClass ("[" ++ FieldType.toString .byte) = some cA := (hK1.2 4 _ rfl).2
  have e2 : s.vm.findClass ("[" ++ FieldType.toString .byte) = some (G.2.1 0) := (hen.2.2.2 0 _ rfl).2
  have e3 : cA = G.2.1 0 := Option.some.inj (e1.symm.trans e2)
  subst e3
  exact k q p e s m args below meth c H1 locs ls hf hP1 hD1 hS1 hl
theorem XX.newL {n : Nat} (hd : decode M.2.1 pc = .ok (.newarray .long, 2)) (hw : Cond.arrayClass .long ∈ xw_g) (hn : n < 60000000) (hc : cells + 1 ≤ R.cells ∧ slots + n ≤ R.slots) (k : ∀ q : Nat, XX G M R F (cells + 1) (slots + n) (ws ++ [(q, .inl (G.2.1 2, n, .inr (.inl (fun _ => 0))))]) (pc + 2) lv (.ref q :: st)) : XX G M R F cells slots ws pc lv (.int (nI n) :: st) := by
  intro p e s m args below meth c H locs ls hf hP hD hS hl
  have hen := hf.2.2.2.2.2.2.2.2
  have hts : ∀ w ∈ xw_g, w.before args s = true := fun w h => hen.1 w h args
  refine va_newa (D := G.1) (atype := .long) (ty := .long) (a0 := (n, .inr (.inl (fun _ => 0)))) hf.1 hf.2.1 (hts _ hw) rfl hen.2.2 hP hD hS (fun q h => Nat.le_trans hf.2.2.2.2.2.2.2.1 h) (fun _ => rfl) (nI_pos (by omega)) (nI_clamp (by omega)) (by show n * 8 ≤ _; omega) hc.1 hc.2 hd (fun q cA H1 hK1 hP1 hD1 hS1 => ?_)
  have e1 : s.vm.findClass ("[" ++ FieldType.toString .long) = some cA := (hK1.2 4 _ rfl).2
  have e2 : s.vm.findClass ("[" ++ FieldType.toString .long) = some (G.2.1 2) := (hen.2.2.2 2 _ rfl).2
  have e3 : cA = G.2.1 2 := Option.some.inj (e1.symm.trans e2)
  subst e3
  exact k q p e s m args below meth c H1 locs ls hf hP1 hD1 hS1 hl
theorem XX.newK {n idx : Nat} (hd : decode M.2.1 pc = .ok (.anewarray idx, 3)) (hw : Cond.classLink M.1.cls idx "LineSorter$Key" ∈ xw_g) (hov : Cond.arrayOver (.object "LineSorter$Key") ∈ xw_g) (hn : n < 60000000) (hc : cells + 1 ≤ R.cells ∧ slots + n ≤ R.slots) (k : ∀ q : Nat, XX G M R F (cells + 1) (slots + n) (ws ++ [(q, .inl (G.2.1 3, n, .inr (.inr (.inr (.inr (fun _ => none))))))]) (pc + 3) lv (.ref q :: st)) : XX G M R F cells slots ws pc lv (.int (nI n) :: st) := by
  intro p e s m args below meth c H locs ls hf hP hD hS hl
  have hen := hf.2.2.2.2.2.2.2.2
  have hts : ∀ w ∈ xw_g, w.before args s = true := fun w h => hen.1 w h args
  refine va_newq (D := G.1) (N' := n) hf.1 hf.2.1 hf.2.2.2.2.2.1 (hts _ hw) (hen.1 _ hov #[]) hen.2.2 hP hD hS (fun q h => Nat.le_trans hf.2.2.2.2.2.2.2.1 h) (nI_pos (by omega)) (nI_clamp (by omega)) (by omega) hc.1 hc.2 hd (fun q cA H1 hK1 hP1 hD1 hS1 => ?_)
  obtain ⟨_, _, _, _, _, e1⟩ := (hK1.2 4 _ rfl).2
  obtain ⟨_, _, _, _, _, e2⟩ := (hen.2.2.2 3 _ rfl).2
  have e3 : cA = G.2.1 3 := Option.some.inj (e1.symm.trans e2)
  subst e3
  exact k q p e s m args below meth c H1 locs ls hf hP1 hD1 hS1 hl
theorem XX.callS {Mk : XM} {n idx : Nat} {As rest : List Value} {rmk : Room} {P : Option Value → va_W → Prop} (hM : MM G Mk rmk As ws P) (hk : xx_mt Mk n) (hst : Cond.static Mk.1 ∈ xw_g) (hlk : Cond.methodLink M.1.cls idx Mk.1 ∈ xw_g) (hn : As.length = n) (hd : decode M.2.1 pc = .ok (.invokestatic idx, 3)) (hR : rmk.frames + 1 ≤ R.frames ∧ 8 + (Mk.2.2.1 + 11) + rmk.locals ≤ R.locals) (hC : cells + rmk.cells ≤ R.cells ∧ slots + rmk.slots ≤ R.slots) (hw : (rest.map fun v => v.category).sum ≤ 8) (hst0 : st = As.reverse ++ rest)
    (k : ∀ (r : Option Value) (ws1 : va_W), P r ws1 → XX G M R F (cells + rmk.cells) (slots + rmk.slots) ws1 (pc + 3) lv (r.toList ++ rest)) : XX G M R F cells slots ws pc lv st := by
  intro p e s m args below meth c H locs ls hf hP hD hS hl
  subst hst0
  have hen := hf.2.2.2.2.2.2.2.2
  have hts : ∀ w ∈ xw_g, w.before args s = true := fun w h => hen.1 w h args
  exact xx_after (va_runS (Ts := xw_g) (own := M.1.cls) ⟨hf.1, hf.2.1, hf.2.2.1, hf.2.2.2.2.2.1, hts⟩ hM ⟨callB_of n hts (xx_good hk.1) rfl rfl rfl (hts _ hk.2.1) (hts _ hlk) hk.2.2 hR, hts _ hst⟩ ⟨xx_blind G As ws, fun U hU hW => ⟨rfl, by rw [hU]; exact Nat.le_trans hf.2.2.2.2.2.2.2.1 hS.1, hen.moved hW (by rw [hU]; exact hS.2.1), by rw [hU]; exact hP, hD⟩⟩ rfl hn hl.1 rfl (lv_room hw) hd hC) hS (fun r ws1 H1 locs1 hp hP1 hD1 hS1 => k r ws1 hp p e s m args below meth c H1 locs1 ls hf hP1 hD1 hS1 hl)
theorem XX.callV {Mk : XM} {n idx ci q0 b : Nat} {As rest fs : List Value} {q : vw_C} {rmk : Room} {P : Option Value → va_W → Prop} (hM : MM G Mk rmk (.ref b :: As) ws P) (hk : xx_mt Mk n) (hi : Cond.instanceMethod Mk.1 ∈ xw_g ∧ Cond.selects Mk.1.cls Mk.1 Mk.1 ∈ xw_g) (hlk : Cond.methodLink M.1.cls idx Mk.1 ∈ xw_g ∨ ∃ host : String, Cond.methodLinkNest M.1.cls idx Mk.1 host ∈ xw_n) (hn : As.length = n) (hd : decode M.2.1 pc = .ok (.invokevirtual idx, 3)) (he : ws[q0]? = some (b, .inr (ci, fs))) (hc : xc_cl[ci]? = some q) (hq : q.1 = Mk.1.cls) (hR : rmk.frames + 1 ≤ R.frames ∧ 8 + (Mk.2.2.1 + 11) + rmk.locals ≤ R.locals) (hC : cells + rmk.cells ≤ R.cells ∧ slots + rmk.slots ≤ R.slots) (hw : (rest.map fun v => v.category).sum ≤ 8) (hst0 : st = As.reverse ++ .ref b :: rest)
    (k : ∀ (r : Option Value) (ws1 : va_W), P r ws1 → XX G M R F (cells + rmk.cells) (slots + rmk.slots) ws1 (pc + 3) lv (r.toList ++ rest)) : XX G M R F cells slots ws pc lv st := by
  intro p e s m args below meth c H locs ls hf hP hD hS hl
  subst hst0
  have hen := hf.2.2.2.2.2.2.2.2
  have hts : ∀ w ∈ xw_g, w.before args s = true := fun w h => hen.1 w h args
  have hrc := va_recv hen.2.2 hP hc he
  rw [hq] at hrc
  have hp : PreV s H Mk.1.cls b (xx_pc G (.ref b :: As) ws) As := ⟨xx_blind G _ ws, hrc, fun U hU hW => ⟨rfl, by rw [hU]; exact Nat.le_trans hf.2.2.2.2.2.2.2.1 hS.1, hen.moved hW (by rw [hU]; exact hS.2.1), by rw [hU]; exact hP, hD⟩⟩
  rcases hlk with hlk | ⟨host, hlk⟩
  · exact xx_after (va_runV (Ts := xw_g) (own := M.1.cls) ⟨hf.1, hf.2.1, hf.2.2.1, hf.2.2.2.2.2.1, hts⟩ hM ⟨callB_of n hts (xx_good hk.1) rfl rfl rfl (hts _ hk.2.1) (hts _ hlk) hk.2.2 hR, hts _ hi.1, hts _ hi.2⟩ hp rfl hn hl.1 rfl (lv_room hw) hd hC) hS (fun r ws1 H1 locs1 hp hP1 hD1 hS1 => k r ws1 hp p e s m args below meth c H1 locs1 ls hf hP1 hD1 hS1 hl)
  · exact xx_after (va_runVN (Ts := xw_g) (own := M.1.cls) ⟨hf.1, hf.2.1, hf.2.2.1, hf.2.2.2.2.2.1, hts⟩ hM ⟨va_cnB n hts (xx_good hk.1) rfl rfl rfl (hen.2.1.1 _ hlk) (hts _ hk.2.1) hk.2.2 hR, hts _ hi.1, hts _ hi.2⟩ hp rfl hn hl.1 rfl (lv_room hw) hd hC) hS (fun r ws1 H1 locs1 hp hP1 hD1 hS1 => k r ws1 hp p e s m args below meth c H1 locs1 ls hf hP1 hD1 hS1 hl)
theorem XX.callI {yk : MethodName} {bk : ByteArray} {lk n idx b : Nat} {As rest : List Value} {rmk : Room} {P : Option Value → va_W → Prop} (hM : MM G (yk, bk, lk, none) rmk (.ref b :: As) ws P) (hk : xx_mt (yk, bk, lk, none) n) (hi : Cond.instanceMethod yk ∈ xw_g) (hnm : yk.name = "<init>") (hlk : Cond.methodLink M.1.cls idx yk ∈ xw_g ∨ ∃ host : String, Cond.methodLinkNest M.1.cls idx yk host ∈ xw_n) (hn : As.length = n) (hd : decode M.2.1 pc = .ok (.invokespecial idx, 3)) (hR : rmk.frames + 1 ≤ R.frames ∧ 8 + (lk + 11) + rmk.locals ≤ R.locals) (hC : cells + rmk.cells ≤ R.cells ∧ slots + rmk.slots ≤ R.slots) (hw : (rest.map fun v => v.category).sum ≤ 8) (hst0 : st = As.reverse ++ .ref b :: rest)
    (k : ∀ (r : Option Value) (ws1 : va_W), P r ws1 → XX G M R F (cells + rmk.cells) (slots + rmk.slots) ws1 (pc + 3) lv (r.toList ++ rest)) : XX G M R F cells slots ws pc lv st := by
  intro p e s m args below meth c H locs ls hf hP hD hS hl
  subst hst0
  have hen := hf.2.2.2.2.2.2.2.2
  have hts : ∀ w ∈ xw_g, w.before args s = true := fun w h => hen.1 w h args
  have hp : PreS s H (xx_pc G (.ref b :: As) ws) (.ref b :: As) := ⟨xx_blind G _ ws, fun U hU hW => ⟨rfl, by rw [hU]; exact Nat.le_trans hf.2.2.2.2.2.2.2.1 hS.1, hen.moved hW (by rw [hU]; exact hS.2.1), by rw [hU]; exact hP, hD⟩⟩
  rcases hlk with hlk | ⟨host, hlk⟩
  · exact xx_after (va_runI (Ts := xw_g) (own := M.1.cls) ⟨hf.1, hf.2.1, hf.2.2.1, hf.2.2.2.2.2.1, hts⟩ hM ⟨callB_of n hts (xx_good hk.1) rfl rfl rfl (hts _ hk.2.1) (hts _ hlk) hk.2.2 hR, hnm, hts _ hi⟩ hp rfl hn hl.1 rfl (lv_room hw) hd hC) hS (fun r ws1 H1 locs1 hp hP1 hD1 hS1 => k r ws1 hp p e s m args below meth c H1 locs1 ls hf hP1 hD1 hS1 hl)
  · exact xx_after (va_runIN (Ts := xw_g) (own := M.1.cls) ⟨hf.1, hf.2.1, hf.2.2.1, hf.2.2.2.2.2.1, hts⟩ hM ⟨va_cnB n hts (xx_good hk.1) rfl rfl rfl (hen.2.1.1 _ hlk) (hts _ hk.2.1) hk.2.2 hR, hnm, hts _ hi⟩ hp rfl hn hl.1 rfl (lv_room hw) hd hC) hS (fun r ws1 H1 locs1 hp hP1 hD1 hS1 => k r ws1 hp p e s m args below meth c H1 locs1 ls hf hP1 hD1 hS1 hl)
theorem XX.objInit {idx a : Nat} (hd : decode M.2.1 pc = .ok (.invokespecial idx, 3)) (h1 : Cond.methodLink M.1.cls idx objectInit ∈ xw_g) (h2 : Cond.instanceMethod objectInit ∈ xw_g) (h3 : Cond.code objectInit ⟨#[0xb1]⟩ 1 none ∈ xw_g) (hR : 1 ≤ R.frames) (hR2 : (st.map fun v => v.category).sum + 12 ≤ R.locals) (k : XX G M R F cells slots ws (pc + 3) lv st) : XX G M R F cells slots ws pc lv (.ref a :: st) := by
  intro p e s m args below meth c H locs ls hf hP hD hS hl
  have hen := hf.2.2.2.2.2.2.2.2
  refine W.objInit hf.1 hf.2.1 hf.2.2.2.2.2.1 (hen.1 _ h1 args) (hen.1 _ h2 args) (hen.1 _ h3 args) rfl (by rw [hf.2.2.1]; exact hl.1) rfl hd hR ?_ (k p e s m args below meth c H locs ls hf hP hD hS hl)
  show 2 * 0 + (st.map fun v => v.category).sum + 12 ≤ R.locals
  omega
theorem XX.mmin {idx : Nat} {x y : Int32} (hd : decode M.2.1 pc = .ok (.invokestatic idx, 3)) (h1 : Cond.methodLink M.1.cls idx Lib.Math.min.name ∈ xw_g) (h2 : Cond.static Lib.Math.min.name ∈ xw_g) (h3 : Cond.initialized "java/lang/Math" ∈ xw_g) (h4 : Cond.code Lib.Math.min.name Lib.Math.min.code 2 (some .int) ∈ xw_g) (hR : 1 ≤ R.frames) (hR2 : (st.map fun v => v.category).sum + 13 ≤ R.locals) (hC : cells ≤ R.cells ∧ slots ≤ R.slots) (k : XX G M R F cells slots ws (pc + 3) lv (.int (if y < x then y else x) :: st)) : XX G M R F cells slots ws pc lv (.int y :: .int x :: st) := by
  intro p e s m args below meth c H locs ls hf hP hD hS hl
  have hen := hf.2.2.2.2.2.2.2.2
  exact va_mmin hf.1 hf.2.1 (by rw [hf.2.2.1]; exact hl.1.symm) hf.2.2.2.2.2.1 (hen.1 _ h1 args) (hen.1 _ h2 args) (hen.1 _ h3 args) (hen.1 _ h4 args) hR hR2 hC.1 hC.2 hd (k p e s m args below meth c H locs ls hf hP hD hS hl)
theorem XX.mmax {idx : Nat} {x y : Int32} (hd : decode M.2.1 pc = .ok (.invokestatic idx, 3)) (h1 : Cond.methodLink M.1.cls idx Lib.Math.max.name ∈ xw_g) (h2 : Cond.static Lib.Math.max.name ∈ xw_g) (h3 : Cond.initialized "java/lang/Math" ∈ xw_g) (h4 : Cond.code Lib.Math.max.name Lib.Math.max.code 2 (some .int) ∈ xw_g) (hR : 1 ≤ R.frames) (hR2 : (st.map fun v => v.category).sum + 13 ≤ R.locals) (hC : cells ≤ R.cells ∧ slots ≤ R.slots) (k : XX G M R F cells slots ws (pc + 3) lv (.int (if x < y then y else x) :: st)) : XX G M R F cells slots ws pc lv (.int y :: .int x :: st) := by
  intro p e s m args below meth c H locs ls hf hP hD hS hl
  have hen := hf.2.2.2.2.2.2.2.2
  exact va_mmax hf.1 hf.2.1 (by rw [hf.2.2.1]; exact hl.1.symm) hf.2.2.2.2.2.1 (hen.1 _ h1 args) (hen.1 _ h2 args) (hen.1 _ h3 args) (hen.1 _ h4 args) hR hR2 hC.1 hC.2 hd (k p e s m args below meth c H locs ls hf hP hD hS hl)
theorem XX.iret {rm : Room} {P : Option Value → va_W → Prop} {v : Int32} (hd : decode M.2.1 pc = .ok (.ireturn, 1)) (hr : M.2.2.2 = some .int) (hc : cells ≤ rm.cells ∧ slots ≤ rm.slots) (hp : P (some (.int v)) ws) : XX G M R (xx_F G P rm) cells slots ws pc lv [.int v] := by
  intro p e s m args below meth c H locs ls hf hP hD hS hl
  refine W.widen hc.1 hc.2 ?_
  exact W.iret hf.1 hf.2.1 (hf.2.2.2.1.trans hr) (fun t ht hW => ⟨hS.F ht, _, ws, rfl, hp, by rw [ht]; exact hP, hD⟩) hS.2.2 hd hf.2.2.2.2.1
theorem XX.zret {rm : Room} {P : Option Value → va_W → Prop} {v : Int32} (hd : decode M.2.1 pc = .ok (.ireturn, 1)) (hr : M.2.2.2 = some .boolean) (hn : narrow .boolean (.int v) = .int v) (hc : cells ≤ rm.cells ∧ slots ≤ rm.slots) (hp : P (some (.int v)) ws) : XX G M R (xx_F G P rm) cells slots ws pc lv [.int v] := by
  intro p e s m args below meth c H locs ls hf hP hD hS hl
  refine W.widen hc.1 hc.2 ?_
  exact W.zret hf.1 hf.2.1 (hf.2.2.2.1.trans hr) hn (fun t ht hW => ⟨hS.F ht, _, ws, rfl, hp, by rw [ht]; exact hP, hD⟩) hS.2.2 hd hf.2.2.2.2.1
theorem XX.vret {rm : Room} {P : Option Value → va_W → Prop} (hd : decode M.2.1 pc = .ok (.return_, 1)) (hr : M.2.2.2 = none) (hc : cells ≤ rm.cells ∧ slots ≤ rm.slots) (hp : P none ws) : XX G M R (xx_F G P rm) cells slots ws pc lv [] := by
  intro p e s m args below meth c H locs ls hf hP hD hS hl
  refine W.widen hc.1 hc.2 ?_
  exact W.vret hf.1 hf.2.1 (hf.2.2.2.1.trans hr) (fun t ht hW => ⟨hS.F ht, _, ws, rfl, hp, by rw [ht]; exact hP, hD⟩) hS.2.2 hd hf.2.2.2.2.1
theorem XX.aret {rm : Room} {P : Option Value → va_W → Prop} {a : Nat} {t : FieldType} (hd : decode M.2.1 pc = .ok (.areturn, 1)) (hr : M.2.2.2 = some t) (ht : (∃ n, t = .object n) ∨ ∃ u, t = .array u) (hc : cells ≤ rm.cells ∧ slots ≤ rm.slots) (hp : P (some (.ref a)) ws) : XX G M R (xx_F G P rm) cells slots ws pc lv [.ref a] := by
  intro p e s m args below meth c H locs ls hf hP hD hS hl
  refine W.widen hc.1 hc.2 ?_
  exact W.aret hf.1 hf.2.1 (hf.2.2.2.1.trans hr) ht (Or.inr ⟨a, rfl⟩) (fun t ht hW => ⟨hS.F ht, _, ws, rfl, hp, by rw [ht]; exact hP, hD⟩) hS.2.2 hd hf.2.2.2.2.1
end
end
section
/-- the world of the class: q addresses, x int fields, n the two lengths that grow, f arrays, kf the row of keys, kl what else is there -/
def wC (G : XG) (q : Nat → Nat) (x : Nat → Int32) (n : Nat → Nat) (f : Nat → Nat → Int32) (kf : Nat → Option Nat) (kl : va_W) : va_W :=
  (q 0, .inr (0, [.ref (q 1), .ref (q 4), .ref (q 5), .ref (q 10), .ref (q 13), .ref (q 15), .ref (q 18), .int (x 0), .int (x 1), .int (x 2)])) ::
  (q 1, .inr (1, [.ref (q 2), .int (x 3), .ref (q 3), .int (x 4)])) ::
  (q 2, .inl (G.2.1 0, n 0, .inl (f 0))) ::
  (q 3, .inl (G.2.1 1, n 1, .inl (f 1))) ::
  (q 4, .inr (2, [.ref (q 1), .int (x 5)])) ::
  (q 5, .inr (3, [.ref (q 1), .ref (q 4), .ref (q 6), .ref (q 7), .ref (q 8), .ref (q 9), .int (x 6), .int (x 7), .int (x 8), .int (x 9)])) ::
  (q 6, .inl (G.2.1 3, 6, .inr (.inr (.inr (.inr kf))))) ::
  (q 7, .inr (4, [.int (nI 1), .int (nI 1), .int (nI 0), .int (nI 0), .int (nI 0)])) ::
  (q 8, .inr (5, [.int (x 10), .int (x 11), .int (x 12), .int (x 13), .int (x 14)])) ::
  (q 9, .inr (5, [.int (x 15), .int (x 16), .int (x 17), .int (x 18), .int (x 19)])) ::
  (q 10, .inr (6, [.ref (q 5), .ref (q 11), .ref (q 12)])) ::
  (q 11, .inl (G.2.1 1, 1000, .inl (f 2))) ::
  (q 12, .inl (G.2.1 1, 1000, .inl (f 3))) ::
  (q 13, .inr (7, [.ref (q 14), .int (x 20)])) ::
  (q 14, .inl (G.2.1 1, 1000, .inl (f 4))) ::
  (q 15, .inr (8, [.ref (q 10), .ref (q 13), .ref (q 16), .ref (q 17), .int (x 21), .int (x 22), .int (x 23), .int (x 24)])) ::
  (q 16, .inl (G.2.1 1, 1000, .inl (f 5))) ::
  (q 17, .inl (G.2.1 1, 2000, .inl (f 6))) ::
  (q 18, .inl (G.2.1 1, 1000, .inl (f 7))) :: kl
/-- the world of the reference -/
def wM (G : XG) (q : Nat → Nat) (x : Nat → Int32) (f : Nat → Nat → Int32) (kl : va_W) : va_W :=
  (q 0, .inr (9, [.ref (q 1), .int (x 0), .ref (q 2), .int (x 1), .int (x 2), .int (x 3), .int (x 4), .int (x 5), .int (x 6), .ref (q 3), .int (x 7), .int (x 8), .int (x 9), .ref (q 4), .ref (q 5), .int (x 10), .ref (q 6), .int (x 11), .ref (q 7), .ref (q 8), .ref (q 9), .int (x 12), .ref (q 10), .int (x 13), .int (x 14), .int (x 15), .int (x 16), .ref (q 11), .int (x 17), .int (x 18), .int (x 19), .ref (q 12)])) ::
  (q 1, .inl (G.2.1 0, 20000, .inl (f 0))) ::
  (q 2, .inl (G.2.1 1, 20001, .inl (f 1))) ::
  (q 3, .inl (G.2.1 1, 30, .inl (f 2))) ::
  (q 4, .inl (G.2.1 1, 6000, .inl (f 3))) ::
  (q 5, .inl (G.2.1 1, 6000, .inl (f 4))) ::
  (q 6, .inl (G.2.1 1, 1000, .inl (f 5))) ::
  (q 7, .inl (G.2.1 1, 1000, .inl (f 6))) ::
  (q 8, .inl (G.2.1 1, 1000, .inl (f 7))) ::
  (q 9, .inl (G.2.1 1, 1000, .inl (f 8))) ::
  (q 10, .inl (G.2.1 1, 1000, .inl (f 9))) ::
  (q 11, .inl (G.2.1 1, 500, .inl (f 10))) ::
  (q 12, .inl (G.2.1 1, 1000, .inl (f 11))) :: kl
def fup (f : Nat → Nat → Int32) (k : Nat) (g : Nat → Int32) : Nat → Nat → Int32 := fun i => if i = k then g else f i
def xr (d c s : Nat) : Room := { frames := d, cells := c, slots := s, locals := 40 * d }
def RX (r : Option Value) (ws : va_W) : Option Value → va_W → Prop := fun a b => a = r ∧ b = ws
end
section
/-! XR: as XX, while nothing has been written or made: for methods that only read, and for the way to a throw -/
def XR (G : XG) (M : XM) (R : Room) (F : XF) (ws : va_W) (pc : Nat) (lv : List (Nat × Value)) (st : List Value) : Prop :=
  ∀ (p : Program) (e : Env) (s : State) (m : MethodId) (args : Array Value) (below : List Frame) (meth : Method) (c : Code) (ls : Array Slot),
    xx_fx G M p s m meth c → va_P G.1 xc_cl ws s.heap → va_D (xg_A G) ws → lv_has ls M.2.2.1 lv →
    W p G.2.2.2 e R s m args below meth c s.heap [] 0 0 (F below args s) (F0 m pc ls st)
def xr_qc (r : Option Value) : Array Value → State → Outcome → State → Prop := fun _ st o t => o = .returned r ∧ t.heap = st.heap
/-- the contract of a method that only reads: it returns r, the heap as it was -/
def MR (G : XG) (M : XM) (rm : Room) (av : List Value) (ws : va_W) (r : Option Value) : Prop :=
  Met G.2.2.2 M.1 (xx_ws M) rm (xx_pc G av ws) (xr_qc r) 0 0 (fun _ => False)
def xr_F (r : Option Value) : XF := fun below args s => MQ below (xr_qc r) args s 0 0 (fun _ => False)
theorem MR.of {G : XG} {M : XM} {rm : Room} {av : List Value} {ws : va_W} {r : Option Value} (hy : plainName M.1.cls = true) (hlen : (lg_sl av).length ≤ M.2.2.1)
    (h : XR G M rm (xr_F r) ws 0 (lv_args 0 av) []) : MR G M rm av ws r := by
  refine Met.ofW (cc := M.2.1) (maxL := M.2.2.1) (ret := M.2.2.2) hy rfl ?_
  intro p e s m args below meth c s₁ B hml hv
  obtain ⟨rfl, hbase, hen, hP, hD⟩ := hv
  have hl := lv_entry av (n := M.2.2.1) hlen
  rw [lg_entry_eq]
  exact h p e s m _ below meth c _ ⟨B.exec, B.bytes, hml, B.returns, B.notSynchronized, findClass_of_methodNamed B.named, Or.inl ⟨(name_of_methodNamed B.named B.method).1, B.named⟩, hbase, hen⟩ hP hD hl
theorem xr_met {l : Launch} {y : MethodName} {ws : List Cond} {rm : Room} {Pc : Array Value → State → Prop} {Qc Q2 : Array Value → State → Outcome → State → Prop} {mc ms m2 n2 : Nat} {f1 f2 : Addr → Prop} (h : Met l y ws rm Pc Qc mc ms f1) (hq : ∀ a st o t, Pc a st → Qc a st o t → Q2 a st o t) (hc : mc ≤ m2) (hs : ms ≤ n2) (hf : ∀ q, f1 q → f2 q) : Met l y ws rm Pc Q2 m2 n2 f2 := by
  intro p e h1 h2 h3 s m args below h4 h5 h6 h7
  obtain ⟨n, o, a1, a2, a3, b1, L, ⟨b2, b3, b4⟩, b5⟩ := h p e h1 h2 h3 s m args below h4 h5 h6 h7
  exact ⟨n, o, a1, a2, a3, hq _ _ _ _ h6 b1, L, ⟨b2, b3, b4.weaken (fun _ h _ => h) hc hs⟩, fun q h => hf _ (b5 q h)⟩
theorem MR.mm {G : XG} {M : XM} {rm : Room} {av : List Value} {ws : va_W} {r : Option Value} (h : MR G M rm av ws r) : MM G M rm av ws (fun a b => a = r ∧ b = ws) := by
  refine xr_met h (fun a st o t hp hq => ?_) (Nat.zero_le _) (Nat.zero_le _) (fun q h => h.elim)
  obtain ⟨h1, h2⟩ := hq
  obtain ⟨_, _, _, h3, h4⟩ := hp
  exact ⟨⟨by rw [h2]; exact Nat.le_refl _, fun q _ _ => by rw [h2]⟩, r, ws, h1, ⟨rfl, rfl⟩, by rw [h2]; exact h3, h4⟩
section
variable {p : Program} {l : Launch} {e : Env} {R : Room} {s : State} {m : MethodId} {args : Array Value} {below : List Frame} {meth : Method} {c : Code} {Q : State → Prop}
theorem xr_after {r : Option Value} {a : Array Value} {pc : Nat} {ls : Array Slot} {st0 rest : List Value} (hr : va_Run p l e R s m args below meth c s.heap [] 0 0 0 0 (F0 m pc ls st0) rest (xr_qc r a) (fun _ => False))
    (kk : W p l e R s m args below meth c s.heap [] 0 0 Q (F0 m (pc + 3) ls (r.toList ++ rest))) : W p l e R s m args below meth c s.heap [] 0 0 Q (F0 m pc ls st0) := by
  intro T hT X
  obtain ⟨v, st₀, t, T', L, h0, X', hL, e1, e2, ⟨hv, hh⟩, st⟩ := hr T hT X
  cases hv
  have hL0 : L = [] := by
    cases L with
    | nil => rfl
    | cons x xs => exact (hL x List.mem_cons_self).elim
  subst hL0
  obtain ⟨t2, a1, b1⟩ := kk T' (by rw [e1, hh, h0]) X'
  exact ⟨t2, st t2 a1, b1⟩
end
section
variable {G : XG} {M : XM} {R : Room} {F : XF} {cells slots : Nat} {ws : va_W} {pc : Nat} {lv : List (Nat × Value)} {st : List Value}
theorem XR.xx (k : XX G M R F 0 0 ws pc lv st) : XR G M R F ws pc lv st := by
  intro p e s m args below meth c ls hf hP hD hl
  exact k p e s m args below meth c s.heap [] ls hf hP hD va_S.rf hl
theorem XR.iconst {n : Int} {v : Int32} (hd : decode M.2.1 pc = .ok (.iconst n, 1)) (hv : Int32.ofInt n = v) (k : XR G M R F ws (pc + 1) lv (.int v :: st)) : XR G M R F ws pc lv (st) := by
  intro p e s m args below meth c ls hf hP hD hl
  exact lv_iconst hf.1 hf.2.1 hd hv (k p e s m args below meth c ls hf hP hD hl)
theorem XR.bipush {n : Int} {v : Int32} (hd : decode M.2.1 pc = .ok (.bipush n, 2)) (hv : (Int8.ofInt n).toInt32 = v) (k : XR G M R F ws (pc + 2) lv (.int v :: st)) : XR G M R F ws pc lv (st) := by
  intro p e s m args below meth c ls hf hP hD hl
  exact lv_bipush hf.1 hf.2.1 hd hv (k p e s m args below meth c ls hf hP hD hl)
theorem XR.sipush {n : Int} {v : Int32} (hd : decode M.2.1 pc = .ok (.sipush n, 3)) (hv : (Int16.ofInt n).toInt32 = v) (k : XR G M R F ws (pc + 3) lv (.int v :: st)) : XR G M R F ws pc lv (st) := by
  intro p e s m args below meth c ls hf hP hD hl
  exact lv_sipush hf.1 hf.2.1 hd hv (k p e s m args below meth c ls hf hP hD hl)
theorem XR.lconst {n : Fin 2} {v : Int64} (hd : decode M.2.1 pc = .ok (.lconst n, 1)) (hv : Int64.ofNat (n : Nat) = v) (k : XR G M R F ws (pc + 1) lv (.long v :: st)) : XR G M R F ws pc lv (st) := by
  intro p e s m args below meth c ls hf hP hD hl
  exact lv_lconst hf.1 hf.2.1 hd hv (k p e s m args below meth c ls hf hP hD hl)
theorem XR.iload_n {j : Fin 4} {i : Nat} {x : Int32} (hd : decode M.2.1 pc = .ok (.iload_n j, 1)) (hi : (j : Nat) = i) (z : Nat) (hz : lv[z]? = some (i, .int x)) (k : XR G M R F ws (pc + 1) lv (.int x :: st)) : XR G M R F ws pc lv (st) := by
  intro p e s m args below meth c ls hf hP hD hl
  exact lv_iload_n hf.1 hf.2.1 hd hi (lv_at hl z hz) (k p e s m args below meth c ls hf hP hD hl)
theorem XR.iload {i : Nat} {x : Int32} (hd : decode M.2.1 pc = .ok (.iload i, 2)) (z : Nat) (hz : lv[z]? = some (i, .int x)) (k : XR G M R F ws (pc + 2) lv (.int x :: st)) : XR G M R F ws pc lv (st) := by
  intro p e s m args below meth c ls hf hP hD hl
  exact lv_iload hf.1 hf.2.1 hd (lv_at hl z hz) (k p e s m args below meth c ls hf hP hD hl)
theorem XR.lload_n {j : Fin 4} {i : Nat} {x : Int64} (hd : decode M.2.1 pc = .ok (.lload_n j, 1)) (hi : (j : Nat) = i) (z : Nat) (hz : lv[z]? = some (i, .long x)) (k : XR G M R F ws (pc + 1) lv (.long x :: st)) : XR G M R F ws pc lv (st) := by
  intro p e s m args below meth c ls hf hP hD hl
  exact lv_lload_n hf.1 hf.2.1 hd hi (lv_at hl z hz) (k p e s m args below meth c ls hf hP hD hl)
theorem XR.lload {i : Nat} {x : Int64} (hd : decode M.2.1 pc = .ok (.lload i, 2)) (z : Nat) (hz : lv[z]? = some (i, .long x)) (k : XR G M R F ws (pc + 2) lv (.long x :: st)) : XR G M R F ws pc lv (st) := by
  intro p e s m args below meth c ls hf hP hD hl
  exact lv_lload hf.1 hf.2.1 hd (lv_at hl z hz) (k p e s m args below meth c ls hf hP hD hl)
theorem XR.aload_n {j : Fin 4} {i : Nat} {x : Nat} (hd : decode M.2.1 pc = .ok (.aload_n j, 1)) (hi : (j : Nat) = i) (z : Nat) (hz : lv[z]? = some (i, .ref x)) (k : XR G M R F ws (pc + 1) lv (.ref x :: st)) : XR G M R F ws pc lv (st) := by
  intro p e s m args below meth c ls hf hP hD hl
  exact lv_aload_n hf.1 hf.2.1 hd hi (lv_at hl z hz) (k p e s m args below meth c ls hf hP hD hl)
theorem XR.aload {i : Nat} {x : Nat} (hd : decode M.2.1 pc = .ok (.aload i, 2)) (z : Nat) (hz : lv[z]? = some (i, .ref x)) (k : XR G M R F ws (pc + 2) lv (.ref x :: st)) : XR G M R F ws pc lv (st) := by
  intro p e s m args below meth c ls hf hP hD hl
  exact lv_aload hf.1 hf.2.1 hd (lv_at hl z hz) (k p e s m args below meth c ls hf hP hD hl)
theorem XR.istore_n {j : Fin 4} {i : Nat} {x : Int32} {lv2 : List (Nat × Value)} (hd : decode M.2.1 pc = .ok (.istore_n j, 1)) (hi : (j : Nat) = i) (hn : i < M.2.2.1) (h2 : (i, Value.int x) :: lv.filter (fun q => !(q.1 == i) && !(q.1 + 1 == i && q.2.category == 2)) = lv2) (k : XR G M R F ws (pc + 1) lv2 st) : XR G M R F ws pc lv (.int x :: st) := by
  intro p e s m args below meth c ls hf hP hD hl
  exact lv_istore_n hf.1 hf.2.1 hd hi hl hn h2 (fun ls2 hl2 => k p e s m args below meth c ls2 hf hP hD hl2)
theorem XR.istore {i : Nat} {x : Int32} {lv2 : List (Nat × Value)} (hd : decode M.2.1 pc = .ok (.istore i, 2)) (hn : i < M.2.2.1) (h2 : (i, Value.int x) :: lv.filter (fun q => !(q.1 == i) && !(q.1 + 1 == i && q.2.category == 2)) = lv2) (k : XR G M R F ws (pc + 2) lv2 st) : XR G M R F ws pc lv (.int x :: st) := by
  intro p e s m args below meth c ls hf hP hD hl
  exact lv_istore hf.1 hf.2.1 hd hl hn h2 (fun ls2 hl2 => k p e s m args below meth c ls2 hf hP hD hl2)
theorem XR.lstore_n {j : Fin 4} {i : Nat} {x : Int64} {lv2 : List (Nat × Value)} (hd : decode M.2.1 pc = .ok (.lstore_n j, 1)) (hi : (j : Nat) = i) (hn : i + 1 < M.2.2.1) (h2 : (i, Value.long x) :: lv.filter (fun q => !(q.1 == i) && (!(q.1 == i + 1) && !(q.1 + 1 == i && q.2.category == 2))) = lv2) (k : XR G M R F ws (pc + 1) lv2 st) : XR G M R F ws pc lv (.long x :: st) := by
  intro p e s m args below meth c ls hf hP hD hl
  exact lv_lstore_n hf.1 hf.2.1 hd hi hl hn h2 (fun ls2 hl2 => k p e s m args below meth c ls2 hf hP hD hl2)
theorem XR.lstore {i : Nat} {x : Int64} {lv2 : List (Nat × Value)} (hd : decode M.2.1 pc = .ok (.lstore i, 2)) (hn : i + 1 < M.2.2.1) (h2 : (i, Value.long x) :: lv.filter (fun q => !(q.1 == i) && (!(q.1 == i + 1) && !(q.1 + 1 == i && q.2.category == 2))) = lv2) (k : XR G M R F ws (pc + 2) lv2 st) : XR G M R F ws pc lv (.long x :: st) := by
  intro p e s m args below meth c ls hf hP hD hl
  exact lv_lstore hf.1 hf.2.1 hd hl hn h2 (fun ls2 hl2 => k p e s m args below meth c ls2 hf hP hD hl2)
theorem XR.astore_n {j : Fin 4} {i : Nat} {x : Nat} {lv2 : List (Nat × Value)} (hd : decode M.2.1 pc = .ok (.astore_n j, 1)) (hi : (j : Nat) = i) (hn : i < M.2.2.1) (h2 : (i, Value.ref x) :: lv.filter (fun q => !(q.1 == i) && !(q.1 + 1 == i && q.2.category == 2)) = lv2) (k : XR G M R F ws (pc + 1) lv2 st) : XR G M R F ws pc lv (.ref x :: st) := by
  intro p e s m args below meth c ls hf hP hD hl
  exact lv_astore_n hf.1 hf.2.1 hd hi hl hn h2 (fun ls2 hl2 => k p e s m args below meth c ls2 hf hP hD hl2)
theorem XR.astore {i : Nat} {x : Nat} {lv2 : List (Nat × Value)} (hd : decode M.2.1 pc = .ok (.astore i, 2)) (hn : i < M.2.2.1) (h2 : (i, Value.ref x) :: lv.filter (fun q => !(q.1 == i) && !(q.1 + 1 == i && q.2.category == 2)) = lv2) (k : XR G M R F ws (pc + 2) lv2 st) : XR G M R F ws pc lv (.ref x :: st) := by
  intro p e s m args below meth c ls hf hP hD hl
  exact lv_astore hf.1 hf.2.1 hd hl hn h2 (fun ls2 hl2 => k p e s m args below meth c ls2 hf hP hD hl2)
theorem XR.iinc {i z : Nat} {n : Int} {x v : Int32} {lv2 : List (Nat × Value)} (hd : decode M.2.1 pc = .ok (.iinc i n, 3)) (hz : lv[z]? = some (i, .int x)) (hv : x + Int32.ofInt n = v) (hn : i < M.2.2.1) (h2 : (i, Value.int v) :: lv.filter (fun q => !(q.1 == i) && !(q.1 + 1 == i && q.2.category == 2)) = lv2) (k : XR G M R F ws (pc + 3) lv2 st) : XR G M R F ws pc lv st := by
  intro p e s m args below meth c ls hf hP hD hl
  exact lv_iinc hf.1 hf.2.1 hd hl hz hv hn h2 (fun ls2 hl2 => k p e s m args below meth c ls2 hf hP hD hl2)
theorem XR.iadd {x y : Int32} (hd : decode M.2.1 pc = .ok (.iadd, 1))  (k : XR G M R F ws (pc + 1) lv (.int (x + y) :: st)) : XR G M R F ws pc lv (.int y :: .int x :: st) := by
  intro p e s m args below meth c ls hf hP hD hl
  exact lv_iadd hf.1 hf.2.1 hd  (k p e s m args below meth c ls hf hP hD hl)
theorem XR.isub {x y : Int32} (hd : decode M.2.1 pc = .ok (.isub, 1))  (k : XR G M R F ws (pc + 1) lv (.int (x - y) :: st)) : XR G M R F ws pc lv (.int y :: .int x :: st) := by
  intro p e s m args below meth c ls hf hP hD hl
  exact lv_isub hf.1 hf.2.1 hd  (k p e s m args below meth c ls hf hP hD hl)
theorem XR.imul {x y : Int32} (hd : decode M.2.1 pc = .ok (.imul, 1))  (k : XR G M R F ws (pc + 1) lv (.int (x * y) :: st)) : XR G M R F ws pc lv (.int y :: .int x :: st) := by
  intro p e s m args below meth c ls hf hP hD hl
  exact lv_imul hf.1 hf.2.1 hd  (k p e s m args below meth c ls hf hP hD hl)
theorem XR.iand {x y : Int32} (hd : decode M.2.1 pc = .ok (.iand, 1))  (k : XR G M R F ws (pc + 1) lv (.int (x &&& y) :: st)) : XR G M R F ws pc lv (.int y :: .int x :: st) := by
  intro p e s m args below meth c ls hf hP hD hl
  exact lv_iand hf.1 hf.2.1 hd  (k p e s m args below meth c ls hf hP hD hl)
theorem XR.ishl {x y : Int32} (hd : decode M.2.1 pc = .ok (.ishl, 1))  (k : XR G M R F ws (pc + 1) lv (.int (x <<< (y &&& 31)) :: st)) : XR G M R F ws pc lv (.int y :: .int x :: st) := by
  intro p e s m args below meth c ls hf hP hD hl
  exact lv_ishl hf.1 hf.2.1 hd  (k p e s m args below meth c ls hf hP hD hl)
theorem XR.ishr {x y : Int32} (hd : decode M.2.1 pc = .ok (.ishr, 1))  (k : XR G M R F ws (pc + 1) lv (.int (x >>> (y &&& 31)) :: st)) : XR G M R F ws pc lv (.int y :: .int x :: st) := by
  intro p e s m args below meth c ls hf hP hD hl
  exact lv_ishr hf.1 hf.2.1 hd  (k p e s m args below meth c ls hf hP hD hl)
theorem XR.idiv {x y : Int32} (hd : decode M.2.1 pc = .ok (.idiv, 1)) (hne : ¬ y = 0) (k : XR G M R F ws (pc + 1) lv (.int (x / y) :: st)) : XR G M R F ws pc lv (.int y :: .int x :: st) := by
  intro p e s m args below meth c ls hf hP hD hl
  exact lv_idiv hf.1 hf.2.1 hd hne (k p e s m args below meth c ls hf hP hD hl)
theorem XR.irem {x y : Int32} (hd : decode M.2.1 pc = .ok (.irem, 1)) (hne : ¬ y = 0) (k : XR G M R F ws (pc + 1) lv (.int (x - x / y * y) :: st)) : XR G M R F ws pc lv (.int y :: .int x :: st) := by
  intro p e s m args below meth c ls hf hP hD hl
  exact lv_irem hf.1 hf.2.1 hd hne (k p e s m args below meth c ls hf hP hD hl)
theorem XR.ineg {x : Int32} (hd : decode M.2.1 pc = .ok (.ineg, 1))  (k : XR G M R F ws (pc + 1) lv (.int (-x) :: st)) : XR G M R F ws pc lv (.int x :: st) := by
  intro p e s m args below meth c ls hf hP hD hl
  exact lv_ineg hf.1 hf.2.1 hd  (k p e s m args below meth c ls hf hP hD hl)
theorem XR.ladd {x y : Int64} (hd : decode M.2.1 pc = .ok (.ladd, 1))  (k : XR G M R F ws (pc + 1) lv (.long (x + y) :: st)) : XR G M R F ws pc lv (.long y :: .long x :: st) := by
  intro p e s m args below meth c ls hf hP hD hl
  exact lv_ladd hf.1 hf.2.1 hd  (k p e s m args below meth c ls hf hP hD hl)
theorem XR.lsub {x y : Int64} (hd : decode M.2.1 pc = .ok (.lsub, 1))  (k : XR G M R F ws (pc + 1) lv (.long (x - y) :: st)) : XR G M R F ws pc lv (.long y :: .long x :: st) := by
  intro p e s m args below meth c ls hf hP hD hl
  exact lv_lsub hf.1 hf.2.1 hd  (k p e s m args below meth c ls hf hP hD hl)
theorem XR.ldiv {x y : Int64} (hd : decode M.2.1 pc = .ok (.ldiv, 1)) (hne : ¬ y = 0) (k : XR G M R F ws (pc + 1) lv (.long (x / y) :: st)) : XR G M R F ws pc lv (.long y :: .long x :: st) := by
  intro p e s m args below meth c ls hf hP hD hl
  exact lv_ldiv hf.1 hf.2.1 hd hne (k p e s m args below meth c ls hf hP hD hl)
theorem XR.lcmp {x y : Int64} (hd : decode M.2.1 pc = .ok (.lcmp, 1))  (k : XR G M R F ws (pc + 1) lv (.int (lg_cmp x y) :: st)) : XR G M R F ws pc lv (.long y :: .long x :: st) := by
  intro p e s m args below meth c ls hf hP hD hl
  exact W.lcmp hf.1 hf.2.1 hd  (k p e s m args below meth c ls hf hP hD hl)
theorem XR.i2l {x : Int32} {v : Int64} (hd : decode M.2.1 pc = .ok (.i2l, 1)) (hv : x.toInt64 = v) (k : XR G M R F ws (pc + 1) lv (.long v :: st)) : XR G M R F ws pc lv (.int x :: st) := by
  intro p e s m args below meth c ls hf hP hD hl
  exact lv_i2l hf.1 hf.2.1 hd hv (k p e s m args below meth c ls hf hP hD hl)
theorem XR.l2i {x : Int64} {v : Int32} (hd : decode M.2.1 pc = .ok (.l2i, 1)) (hv : x.toInt32 = v) (k : XR G M R F ws (pc + 1) lv (.int v :: st)) : XR G M R F ws pc lv (.long x :: st) := by
  intro p e s m args below meth c ls hf hP hD hl
  exact lv_l2i hf.1 hf.2.1 hd hv (k p e s m args below meth c ls hf hP hD hl)
theorem XR.i2b {x : Int32} {v : Int32} (hd : decode M.2.1 pc = .ok (.i2b, 1)) (hv : x.toInt8.toInt32 = v) (k : XR G M R F ws (pc + 1) lv (.int v :: st)) : XR G M R F ws pc lv (.int x :: st) := by
  intro p e s m args below meth c ls hf hP hD hl
  exact lv_i2b hf.1 hf.2.1 hd hv (k p e s m args below meth c ls hf hP hD hl)
theorem XR.dup {va : Value} (hd : decode M.2.1 pc = .ok (.dup, 1)) (h1 : va.category = 1) (k : XR G M R F ws (pc + 1) lv (va :: va :: st)) : XR G M R F ws pc lv (va :: st) := by
  intro p e s m args below meth c ls hf hP hD hl
  exact lv_dup hf.1 hf.2.1 hd h1 (k p e s m args below meth c ls hf hP hD hl)
theorem XR.pop {va : Value} (hd : decode M.2.1 pc = .ok (.pop, 1)) (h1 : va.category = 1) (k : XR G M R F ws (pc + 1) lv (st)) : XR G M R F ws pc lv (va :: st) := by
  intro p e s m args below meth c ls hf hP hD hl
  exact lv_pop hf.1 hf.2.1 hd h1 (k p e s m args below meth c ls hf hP hD hl)
theorem XR.dup_x1 {va vb : Value} (hd : decode M.2.1 pc = .ok (.dup_x1, 1)) (h1 : va.category = 1) (h2 : vb.category = 1) (k : XR G M R F ws (pc + 1) lv (va :: vb :: va :: st)) : XR G M R F ws pc lv (va :: vb :: st) := by
  intro p e s m args below meth c ls hf hP hD hl
  exact lv_dup_x1 hf.1 hf.2.1 hd h1 h2 (k p e s m args below meth c ls hf hP hD hl)
theorem XR.dup_x2 {va vb vd : Value} (hd : decode M.2.1 pc = .ok (.dup_x2, 1)) (h1 : va.category = 1) (h2 : vb.category = 1) (h3 : vd.category = 1) (k : XR G M R F ws (pc + 1) lv (va :: vb :: vd :: va :: st)) : XR G M R F ws pc lv (va :: vb :: vd :: st) := by
  intro p e s m args below meth c ls hf hP hD hl
  exact lv_dup_x2 hf.1 hf.2.1 hd h1 h2 h3 (k p e s m args below meth c ls hf hP hD hl)
theorem XR.dup2 {va vb : Value} (hd : decode M.2.1 pc = .ok (.dup2, 1)) (h1 : va.category = 1) (h2 : vb.category = 1) (k : XR G M R F ws (pc + 1) lv (va :: vb :: va :: vb :: st)) : XR G M R F ws pc lv (va :: vb :: st) := by
  intro p e s m args below meth c ls hf hP hD hl
  exact lv_dup2_11 hf.1 hf.2.1 hd h1 h2 (k p e s m args below meth c ls hf hP hD hl)
theorem XR.ldc {idx : Nat} {v : Int32} (hd : decode M.2.1 pc = .ok (.ldc idx, 2)) (hw : Cond.constant M.1.cls idx v ∈ xw_g) (k : XR G M R F ws (pc + 2) lv (.int v :: st)) : XR G M R F ws pc lv st := by
  intro p e s m args below meth c ls hf hP hD hl
  exact lv_ldc hf.1 hf.2.1 hf.2.2.2.2.2.1 (hf.2.2.2.2.2.2.2.2.1 _ hw args) hd (k p e s m args below meth c ls hf hP hD hl)
theorem XR.goto {off : Int} {tgt : Nat} (hd : decode M.2.1 pc = .ok (.goto off, 3)) (ht : (pc : Int) + off = (tgt : Int)) (k : XR G M R F ws tgt lv st) : XR G M R F ws pc lv st := by
  intro p e s m args below meth c ls hf hP hD hl
  exact lv_goto hf.1 hf.2.1 hd ht (k p e s m args below meth c ls hf hP hD hl)
theorem XR.icmp_eq {x y : Int32} {off : Int} {tgt : Nat} (hd : decode M.2.1 pc = .ok (.if_icmp .eq off, 3)) (ht : (pc : Int) + off = (tgt : Int)) (kt : x = y → XR G M R F ws tgt lv st) (kf : ¬ x = y → XR G M R F ws (pc + 3) lv st) : XR G M R F ws pc lv (.int y :: .int x :: st) := by
  intro p e s m args below meth c ls hf hP hD hl
  exact lv_icmp_eq hf.1 hf.2.1 hd ht (fun h => kt h p e s m args below meth c ls hf hP hD hl) (fun h => kf h p e s m args below meth c ls hf hP hD hl)
theorem XR.if_eq {x : Int32} {off : Int} {tgt : Nat} (hd : decode M.2.1 pc = .ok (.ifCond .eq off, 3)) (ht : (pc : Int) + off = (tgt : Int)) (kt : x = 0 → XR G M R F ws tgt lv st) (kf : ¬ x = 0 → XR G M R F ws (pc + 3) lv st) : XR G M R F ws pc lv (.int x :: st) := by
  intro p e s m args below meth c ls hf hP hD hl
  exact lv_if_eq hf.1 hf.2.1 hd ht (fun h => kt h p e s m args below meth c ls hf hP hD hl) (fun h => kf h p e s m args below meth c ls hf hP hD hl)
theorem XR.ncmp_eq {a b : Nat} {off : Int} {tgt : Nat} (hd : decode M.2.1 pc = .ok (.if_icmp .eq off, 3)) (ht : (pc : Int) + off = (tgt : Int)) (ha : a < 2 ^ 31) (hb : b < 2 ^ 31) (kt : a = b → XR G M R F ws tgt lv st) (kf : a ≠ b → XR G M R F ws (pc + 3) lv st) : XR G M R F ws pc lv (.int (nI b) :: .int (nI a) :: st) := by
  have z := pk_eq (x := nI a) (y := nI b) a b (A := XR G M R F ws tgt lv st) (B := XR G M R F ws (pc + 3) lv st) (fun h => kt h) (fun h => kf h) rfl rfl ha hb
  exact XR.icmp_eq hd ht z.1 z.2
theorem XR.nif_eq {a : Nat} {off : Int} {tgt : Nat} (hd : decode M.2.1 pc = .ok (.ifCond .eq off, 3)) (ht : (pc : Int) + off = (tgt : Int)) (ha : a < 2 ^ 31) (kt : a = 0 → XR G M R F ws tgt lv st) (kf : 0 < a → XR G M R F ws (pc + 3) lv st) : XR G M R F ws pc lv (.int (nI a) :: st) := by
  have z := pk_eq (x := nI a) (y := (0 : Int32)) a 0 (A := XR G M R F ws tgt lv st) (B := XR G M R F ws (pc + 3) lv st) (fun h => kt (by omega)) (fun h => kf (by omega)) rfl rfl ha (by decide)
  exact XR.if_eq hd ht z.1 z.2
theorem XR.icmp_ne {x y : Int32} {off : Int} {tgt : Nat} (hd : decode M.2.1 pc = .ok (.if_icmp .ne off, 3)) (ht : (pc : Int) + off = (tgt : Int)) (kt : ¬ x = y → XR G M R F ws tgt lv st) (kf : x = y → XR G M R F ws (pc + 3) lv st) : XR G M R F ws pc lv (.int y :: .int x :: st) := by
  intro p e s m args below meth c ls hf hP hD hl
  exact lv_icmp_ne hf.1 hf.2.1 hd ht (fun h => kt h p e s m args below meth c ls hf hP hD hl) (fun h => kf h p e s m args below meth c ls hf hP hD hl)
theorem XR.if_ne {x : Int32} {off : Int} {tgt : Nat} (hd : decode M.2.1 pc = .ok (.ifCond .ne off, 3)) (ht : (pc : Int) + off = (tgt : Int)) (kt : ¬ x = 0 → XR G M R F ws tgt lv st) (kf : x = 0 → XR G M R F ws (pc + 3) lv st) : XR G M R F ws pc lv (.int x :: st) := by
  intro p e s m args below meth c ls hf hP hD hl
  exact lv_if_ne hf.1 hf.2.1 hd ht (fun h => kt h p e s m args below meth c ls hf hP hD hl) (fun h => kf h p e s m args below meth c ls hf hP hD hl)
theorem XR.ncmp_ne {a b : Nat} {off : Int} {tgt : Nat} (hd : decode M.2.1 pc = .ok (.if_icmp .ne off, 3)) (ht : (pc : Int) + off = (tgt : Int)) (ha : a < 2 ^ 31) (hb : b < 2 ^ 31) (kt : a ≠ b → XR G M R F ws tgt lv st) (kf : a = b → XR G M R F ws (pc + 3) lv st) : XR G M R F ws pc lv (.int (nI b) :: .int (nI a) :: st) := by
  have z := pk_eq (x := nI a) (y := nI b) a b (A := XR G M R F ws (pc + 3) lv st) (B := XR G M R F ws tgt lv st) (fun h => kf h) (fun h => kt h) rfl rfl ha hb
  exact XR.icmp_ne hd ht z.2 z.1
theorem XR.nif_ne {a : Nat} {off : Int} {tgt : Nat} (hd : decode M.2.1 pc = .ok (.ifCond .ne off, 3)) (ht : (pc : Int) + off = (tgt : Int)) (ha : a < 2 ^ 31) (kt : 0 < a → XR G M R F ws tgt lv st) (kf : a = 0 → XR G M R F ws (pc + 3) lv st) : XR G M R F ws pc lv (.int (nI a) :: st) := by
  have z := pk_eq (x := nI a) (y := (0 : Int32)) a 0 (A := XR G M R F ws (pc + 3) lv st) (B := XR G M R F ws tgt lv st) (fun h => kf (by omega)) (fun h => kt (by omega)) rfl rfl ha (by decide)
  exact XR.if_ne hd ht z.2 z.1
theorem XR.icmp_lt {x y : Int32} {off : Int} {tgt : Nat} (hd : decode M.2.1 pc = .ok (.if_icmp .lt off, 3)) (ht : (pc : Int) + off = (tgt : Int)) (kt : x < y → XR G M R F ws tgt lv st) (kf : ¬ x < y → XR G M R F ws (pc + 3) lv st) : XR G M R F ws pc lv (.int y :: .int x :: st) := by
  intro p e s m args below meth c ls hf hP hD hl
  exact lv_icmp_lt hf.1 hf.2.1 hd ht (fun h => kt h p e s m args below meth c ls hf hP hD hl) (fun h => kf h p e s m args below meth c ls hf hP hD hl)
theorem XR.if_lt {x : Int32} {off : Int} {tgt : Nat} (hd : decode M.2.1 pc = .ok (.ifCond .lt off, 3)) (ht : (pc : Int) + off = (tgt : Int)) (kt : x < 0 → XR G M R F ws tgt lv st) (kf : ¬ x < 0 → XR G M R F ws (pc + 3) lv st) : XR G M R F ws pc lv (.int x :: st) := by
  intro p e s m args below meth c ls hf hP hD hl
  exact lv_if_lt hf.1 hf.2.1 hd ht (fun h => kt h p e s m args below meth c ls hf hP hD hl) (fun h => kf h p e s m args below meth c ls hf hP hD hl)
theorem XR.ncmp_lt {a b : Nat} {off : Int} {tgt : Nat} (hd : decode M.2.1 pc = .ok (.if_icmp .lt off, 3)) (ht : (pc : Int) + off = (tgt : Int)) (ha : a < 2 ^ 31) (hb : b < 2 ^ 31) (kt : a < b → XR G M R F ws tgt lv st) (kf : b ≤ a → XR G M R F ws (pc + 3) lv st) : XR G M R F ws pc lv (.int (nI b) :: .int (nI a) :: st) := by
  have z := pk_lt (x := nI a) (y := nI b) a b (A := XR G M R F ws tgt lv st) (B := XR G M R F ws (pc + 3) lv st) (fun h => kt h) (fun h => kf h) rfl rfl ha hb
  exact XR.icmp_lt hd ht z.1 z.2
theorem XR.icmp_ge {x y : Int32} {off : Int} {tgt : Nat} (hd : decode M.2.1 pc = .ok (.if_icmp .ge off, 3)) (ht : (pc : Int) + off = (tgt : Int)) (kt : y ≤ x → XR G M R F ws tgt lv st) (kf : ¬ y ≤ x → XR G M R F ws (pc + 3) lv st) : XR G M R F ws pc lv (.int y :: .int x :: st) := by
  intro p e s m args below meth c ls hf hP hD hl
  exact lv_icmp_ge hf.1 hf.2.1 hd ht (fun h => kt h p e s m args below meth c ls hf hP hD hl) (fun h => kf h p e s m args below meth c ls hf hP hD hl)
theorem XR.if_ge {x : Int32} {off : Int} {tgt : Nat} (hd : decode M.2.1 pc = .ok (.ifCond .ge off, 3)) (ht : (pc : Int) + off = (tgt : Int)) (kt : 0 ≤ x → XR G M R F ws tgt lv st) (kf : ¬ 0 ≤ x → XR G M R F ws (pc + 3) lv st) : XR G M R F ws pc lv (.int x :: st) := by
  intro p e s m args below meth c ls hf hP hD hl
  exact lv_if_ge hf.1 hf.2.1 hd ht (fun h => kt h p e s m args below meth c ls hf hP hD hl) (fun h => kf h p e s m args below meth c ls hf hP hD hl)
theorem XR.ncmp_ge {a b : Nat} {off : Int} {tgt : Nat} (hd : decode M.2.1 pc = .ok (.if_icmp .ge off, 3)) (ht : (pc : Int) + off = (tgt : Int)) (ha : a < 2 ^ 31) (hb : b < 2 ^ 31) (kt : b ≤ a → XR G M R F ws tgt lv st) (kf : a < b → XR G M R F ws (pc + 3) lv st) : XR G M R F ws pc lv (.int (nI b) :: .int (nI a) :: st) := by
  have z := pk_le (x := nI b) (y := nI a) b a (A := XR G M R F ws tgt lv st) (B := XR G M R F ws (pc + 3) lv st) (fun h => kt h) (fun h => kf h) rfl rfl hb ha
  exact XR.icmp_ge hd ht z.1 z.2
theorem XR.icmp_gt {x y : Int32} {off : Int} {tgt : Nat} (hd : decode M.2.1 pc = .ok (.if_icmp .gt off, 3)) (ht : (pc : Int) + off = (tgt : Int)) (kt : y < x → XR G M R F ws tgt lv st) (kf : ¬ y < x → XR G M R F ws (pc + 3) lv st) : XR G M R F ws pc lv (.int y :: .int x :: st) := by
  intro p e s m args below meth c ls hf hP hD hl
  exact lv_icmp_gt hf.1 hf.2.1 hd ht (fun h => kt h p e s m args below meth c ls hf hP hD hl) (fun h => kf h p e s m args below meth c ls hf hP hD hl)
theorem XR.if_gt {x : Int32} {off : Int} {tgt : Nat} (hd : decode M.2.1 pc = .ok (.ifCond .gt off, 3)) (ht : (pc : Int) + off = (tgt : Int)) (kt : 0 < x → XR G M R F ws tgt lv st) (kf : ¬ 0 < x → XR G M R F ws (pc + 3) lv st) : XR G M R F ws pc lv (.int x :: st) := by
  intro p e s m args below meth c ls hf hP hD hl
  exact lv_if_gt hf.1 hf.2.1 hd ht (fun h => kt h p e s m args below meth c ls hf hP hD hl) (fun h => kf h p e s m args below meth c ls hf hP hD hl)
theorem XR.ncmp_gt {a b : Nat} {off : Int} {tgt : Nat} (hd : decode M.2.1 pc = .ok (.if_icmp .gt off, 3)) (ht : (pc : Int) + off = (tgt : Int)) (ha : a < 2 ^ 31) (hb : b < 2 ^ 31) (kt : b < a → XR G M R F ws tgt lv st) (kf : a ≤ b → XR G M R F ws (pc + 3) lv st) : XR G M R F ws pc lv (.int (nI b) :: .int (nI a) :: st) := by
  have z := pk_lt (x := nI b) (y := nI a) b a (A := XR G M R F ws tgt lv st) (B := XR G M R F ws (pc + 3) lv st) (fun h => kt h) (fun h => kf h) rfl rfl hb ha
  exact XR.icmp_gt hd ht z.1 z.2
theorem XR.nif_gt {a : Nat} {off : Int} {tgt : Nat} (hd : decode M.2.1 pc = .ok (.ifCond .gt off, 3)) (ht : (pc : Int) + off = (tgt : Int)) (ha : a < 2 ^ 31) (kt : 0 < a → XR G M R F ws tgt lv st) (kf : a = 0 → XR G M R F ws (pc + 3) lv st) : XR G M R F ws pc lv (.int (nI a) :: st) := by
  have z := pk_lt (x := (0 : Int32)) (y := nI a) 0 a (A := XR G M R F ws tgt lv st) (B := XR G M R F ws (pc + 3) lv st) (fun h => kt (by omega)) (fun h => kf (by omega)) rfl rfl (by decide) ha
  exact XR.if_gt hd ht z.1 z.2
theorem XR.icmp_le {x y : Int32} {off : Int} {tgt : Nat} (hd : decode M.2.1 pc = .ok (.if_icmp .le off, 3)) (ht : (pc : Int) + off = (tgt : Int)) (kt : x ≤ y → XR G M R F ws tgt lv st) (kf : ¬ x ≤ y → XR G M R F ws (pc + 3) lv st) : XR G M R F ws pc lv (.int y :: .int x :: st) := by
  intro p e s m args below meth c ls hf hP hD hl
  exact lv_icmp_le hf.1 hf.2.1 hd ht (fun h => kt h p e s m args below meth c ls hf hP hD hl) (fun h => kf h p e s m args below meth c ls hf hP hD hl)
theorem XR.if_le {x : Int32} {off : Int} {tgt : Nat} (hd : decode M.2.1 pc = .ok (.ifCond .le off, 3)) (ht : (pc : Int) + off = (tgt : Int)) (kt : x ≤ 0 → XR G M R F ws tgt lv st) (kf : ¬ x ≤ 0 → XR G M R F ws (pc + 3) lv st) : XR G M R F ws pc lv (.int x :: st) := by
  intro p e s m args below meth c ls hf hP hD hl
  exact lv_if_le hf.1 hf.2.1 hd ht (fun h => kt h p e s m args below meth c ls hf hP hD hl) (fun h => kf h p e s m args below meth c ls hf hP hD hl)
theorem XR.ncmp_le {a b : Nat} {off : Int} {tgt : Nat} (hd : decode M.2.1 pc = .ok (.if_icmp .le off, 3)) (ht : (pc : Int) + off = (tgt : Int)) (ha : a < 2 ^ 31) (hb : b < 2 ^ 31) (kt : a ≤ b → XR G M R F ws tgt lv st) (kf : b < a → XR G M R F ws (pc + 3) lv st) : XR G M R F ws pc lv (.int (nI b) :: .int (nI a) :: st) := by
  have z := pk_le (x := nI a) (y := nI b) a b (A := XR G M R F ws tgt lv st) (B := XR G M R F ws (pc + 3) lv st) (fun h => kt h) (fun h => kf h) rfl rfl ha hb
  exact XR.icmp_le hd ht z.1 z.2
theorem XR.nif_le {a : Nat} {off : Int} {tgt : Nat} (hd : decode M.2.1 pc = .ok (.ifCond .le off, 3)) (ht : (pc : Int) + off = (tgt : Int)) (ha : a < 2 ^ 31) (kt : a = 0 → XR G M R F ws tgt lv st) (kf : 0 < a → XR G M R F ws (pc + 3) lv st) : XR G M R F ws pc lv (.int (nI a) :: st) := by
  have z := pk_le (x := nI a) (y := (0 : Int32)) a 0 (A := XR G M R F ws tgt lv st) (B := XR G M R F ws (pc + 3) lv st) (fun h => kt (by omega)) (fun h => kf (by omega)) rfl rfl ha (by decide)
  exact XR.if_le hd ht z.1 z.2
theorem XR.tabIn {dflt lo hi : Int} {offs : Array Int} {len : Nat} {x : Int32} {off : Int} {tgt : Nat} (hd : decode M.2.1 pc = .ok (.tableswitch dflt lo hi offs, len)) (h1 : ¬ x.toInt < lo) (h2 : ¬ hi < x.toInt) (ho : offs[(x.toInt - lo).toNat]? = some off) (ht : (pc : Int) + off = (tgt : Int)) (k : XR G M R F ws tgt lv st) : XR G M R F ws pc lv (.int x :: st) := by
  intro p e s m args below meth c ls hf hP hD hl
  exact lv_tableIn hf.1 hf.2.1 hd h1 h2 ho ht (k p e s m args below meth c ls hf hP hD hl)
theorem XR.tabOut {dflt lo hi : Int} {offs : Array Int} {len : Nat} {x : Int32} {tgt : Nat} (hd : decode M.2.1 pc = .ok (.tableswitch dflt lo hi offs, len)) (h : x.toInt < lo ∨ hi < x.toInt) (ht : (pc : Int) + dflt = (tgt : Int)) (k : XR G M R F ws tgt lv st) : XR G M R F ws pc lv (.int x :: st) := by
  intro p e s m args below meth c ls hf hP hD hl
  exact lv_tableOut hf.1 hf.2.1 hd h ht (k p e s m args below meth c ls hf hP hD hl)
theorem XR.tp {x y : Int32} (h : x = y) (k : XR G M R F ws pc lv (.int y :: st)) : XR G M R F ws pc lv (.int x :: st) := by rw [h]; exact k
theorem XR.cg {ws2 : va_W} {lv2 : List (Nat × Value)} {st2 : List Value} (h1 : ws = ws2) (h2 : lv = lv2) (h3 : st = st2) (k : XR G M R F ws2 pc lv2 st2) : XR G M R F ws pc lv st := by rw [h1, h2, h3]; exact k
theorem XR.lvs {lv2 : List (Nat × Value)} (is : List Nat) (h : lv_pick lv is = lv2) (k : XR G M R F ws pc lv2 st) : XR G M R F ws pc lv st := by
  intro p e s m args below meth c ls hf hP hD hl
  exact k p e s m args below meth c ls hf hP hD (lv_sub hl is h)
theorem XR.sub {ws2 : va_W} (is : List Nat) (h1 : is.filterMap (fun i => ws[i]?) = ws2) (hn : va_nd is = true) (h2 : is.map (fun i => ws[i]?) = ws2.map some) (k : XR G M R F ws2 pc lv st) : XR G M R F ws pc lv st := by
  intro p e s m args below meth c ls hf hP hD hl
  exact k p e s m args below meth c ls hf (hP.sub is h1) (hD.sub is hn h2) hl
theorem XR.wm {ws2 : va_W} (h1 : ∀ H : Heap, va_P G.1 xc_cl ws H → va_P G.1 xc_cl ws2 H) (h2 : va_D (xg_A G) ws → va_D (xg_A G) ws2) (k : XR G M R F ws2 pc lv st) : XR G M R F ws pc lv st := by
  intro p e s m args below meth c ls hf hP hD hl
  exact k p e s m args below meth c ls hf (h1 _ hP) (h2 hD) hl
theorem XR.get {idx ci f q0 a : Nat} {fs : List Value} {v : Value} (hl0 : xx_fl M.1.cls idx ci f) (hd : decode M.2.1 pc = .ok (.getfield idx, 3)) (he : ws[q0]? = some (a, .inr (ci, fs))) (hv : fs[f]? = some v) (k : XR G M R F ws (pc + 3) lv (v :: st)) : XR G M R F ws pc lv (.ref a :: st) := by
  intro p e s m args below meth c ls hf hP hD hl
  obtain ⟨C, T, N, ty, hcf, hk, hlk⟩ := hl0
  have hen := hf.2.2.2.2.2.2.2.2
  have hts : ∀ w ∈ xw_g, w.before args s = true := fun w h => hen.1 w h args
  rcases hlk with hlk | ⟨host, hlk⟩
  · exact va_get (D := G.1) hf.1 hf.2.1 hts hcf.2.1 hf.2.2.2.2.2.1 hen.2.2 hP q0 he hcf.1 f hk (hts _ hlk) (fun _ h => h) hv hd (k p e s m args below meth c ls hf hP hD hl)
  · exact va_getN (D := G.1) hf.1 hf.2.1 hts hcf.2.1 hf.2.2.2.2.2.1 hen.2.2 hP q0 he hcf.1 f hk (va_Nw.use rfl (hen.2.1.1 _ hlk)) (fun _ h => h) hv hd (k p e s m args below meth c ls hf hP hD hl)
theorem XR.iald {q0 a n j : Nat} {f : Nat → Int32} (hd : decode M.2.1 pc = .ok (.iaload, 1)) (he : ws[q0]? = some (a, .inl (G.2.1 1, n, .inl f))) (hj : j < n) (hn : n < 2 ^ 31) (k : XR G M R F ws (pc + 1) lv (.int (f j) :: st)) : XR G M R F ws pc lv (.int (nI j) :: .ref a :: st) := by
  intro p e s m args below meth c ls hf hP hD hl
  refine va_iald (D := G.1) hf.1 hf.2.1 hf.2.2.2.2.2.2.2.2.2.2 hP q0 1 he rfl (pk_in j n hj rfl hn) hd ?_
  rw [pk_cl j rfl (by omega)]
  exact k p e s m args below meth c ls hf hP hD hl
theorem XR.bald {q0 a n j : Nat} {f : Nat → Int32} (hd : decode M.2.1 pc = .ok (.baload, 1)) (he : ws[q0]? = some (a, .inl (G.2.1 0, n, .inl f))) (hj : j < n) (hn : n < 2 ^ 31) (k : XR G M R F ws (pc + 1) lv (.int (f j) :: st)) : XR G M R F ws pc lv (.int (nI j) :: .ref a :: st) := by
  intro p e s m args below meth c ls hf hP hD hl
  refine va_bald (D := G.1) hf.1 hf.2.1 hf.2.2.2.2.2.2.2.2.2.2 hP q0 0 he rfl (pk_in j n hj rfl hn) hd ?_
  rw [pk_cl j rfl (by omega)]
  exact k p e s m args below meth c ls hf hP hD hl
theorem XR.lald {q0 a n j : Nat} {f : Nat → Int64} (hd : decode M.2.1 pc = .ok (.laload, 1)) (he : ws[q0]? = some (a, .inl (G.2.1 2, n, .inr (.inl f)))) (hj : j < n) (hn : n < 2 ^ 31) (k : XR G M R F ws (pc + 1) lv (.long (f j) :: st)) : XR G M R F ws pc lv (.int (nI j) :: .ref a :: st) := by
  intro p e s m args below meth c ls hf hP hD hl
  refine va_lald (D := G.1) hf.1 hf.2.1 hf.2.2.2.2.2.2.2.2.2.2 hP q0 2 he rfl (pk_in j n hj rfl hn) hd ?_
  rw [pk_cl j rfl (by omega)]
  exact k p e s m args below meth c ls hf hP hD hl
theorem XR.aald {q0 a n j : Nat} {f : Nat → Option Nat} (hd : decode M.2.1 pc = .ok (.aaload, 1)) (he : ws[q0]? = some (a, .inl (G.2.1 3, n, .inr (.inr (.inr (.inr f)))))) (hj : j < n) (hn : n < 2 ^ 31) (k : XR G M R F ws (pc + 1) lv (va_rf (f j) :: st)) : XR G M R F ws pc lv (.int (nI j) :: .ref a :: st) := by
  intro p e s m args below meth c ls hf hP hD hl
  refine va_aldq (D := G.1) hf.1 hf.2.1 hf.2.2.2.2.2.2.2.2.2.2 hP q0 3 he rfl (pk_in j n hj rfl hn) hd ?_
  rw [pk_cl j rfl (by omega)]
  exact k p e s m args below meth c ls hf hP hD hl
theorem XR.alen {q0 a t0 : Nat} {x : vp_A} {ty : FieldType} (hd : decode M.2.1 pc = .ok (.arraylength, 1)) (he : ws[q0]? = some (a, .inl (G.2.1 t0, x))) (ht : (xg_ty G)[t0]? = some (G.2.1 t0, ty)) (k : XR G M R F ws (pc + 1) lv (.int (nI x.1) :: st)) : XR G M R F ws pc lv (.ref a :: st) := by
  intro p e s m args below meth c ls hf hP hD hl
  exact va_alen (D := G.1) hf.1 hf.2.1 hf.2.2.2.2.2.2.2.2.2.2 hP q0 t0 he ht rfl hd (k p e s m args below meth c ls hf hP hD hl)
theorem XR.mmin {idx : Nat} {x y : Int32} (hd : decode M.2.1 pc = .ok (.invokestatic idx, 3)) (h1 : Cond.methodLink M.1.cls idx Lib.Math.min.name ∈ xw_g) (h2 : Cond.static Lib.Math.min.name ∈ xw_g) (h3 : Cond.initialized "java/lang/Math" ∈ xw_g) (h4 : Cond.code Lib.Math.min.name Lib.Math.min.code 2 (some .int) ∈ xw_g) (hR : 1 ≤ R.frames) (hR2 : (st.map fun v => v.category).sum + 13 ≤ R.locals) (hC : 0 ≤ R.cells ∧ 0 ≤ R.slots) (k : XR G M R F ws (pc + 3) lv (.int (if y < x then y else x) :: st)) : XR G M R F ws pc lv (.int y :: .int x :: st) := by
  intro p e s m args below meth c ls hf hP hD hl
  have hen := hf.2.2.2.2.2.2.2.2
  exact va_mmin hf.1 hf.2.1 (by rw [hf.2.2.1]; exact hl.1.symm) hf.2.2.2.2.2.1 (hen.1 _ h1 args) (hen.1 _ h2 args) (hen.1 _ h3 args) (hen.1 _ h4 args) hR hR2 hC.1 hC.2 hd (k p e s m args below meth c ls hf hP hD hl)
theorem XR.mmax {idx : Nat} {x y : Int32} (hd : decode M.2.1 pc = .ok (.invokestatic idx, 3)) (h1 : Cond.methodLink M.1.cls idx Lib.Math.max.name ∈ xw_g) (h2 : Cond.static Lib.Math.max.name ∈ xw_g) (h3 : Cond.initialized "java/lang/Math" ∈ xw_g) (h4 : Cond.code Lib.Math.max.name Lib.Math.max.code 2 (some .int) ∈ xw_g) (hR : 1 ≤ R.frames) (hR2 : (st.map fun v => v.category).sum + 13 ≤ R.locals) (hC : 0 ≤ R.cells ∧ 0 ≤ R.slots) (k : XR G M R F ws (pc + 3) lv (.int (if x < y then y else x) :: st)) : XR G M R F ws pc lv (.int y :: .int x :: st) := by
  intro p e s m args below meth c ls hf hP hD hl
  have hen := hf.2.2.2.2.2.2.2.2
  exact va_mmax hf.1 hf.2.1 (by rw [hf.2.2.1]; exact hl.1.symm) hf.2.2.2.2.2.1 (hen.1 _ h1 args) (hen.1 _ h2 args) (hen.1 _ h3 args) (hen.1 _ h4 args) hR hR2 hC.1 hC.2 hd (k p e s m args below meth c ls hf hP hD hl)
theorem XR.callS {Mk : XM} {n idx d : Nat} {As rest : List Value} {r : Option Value} (hM : MR G Mk (xr d 0 0) As ws r) (hk : xx_mt Mk n) (hst : Cond.static Mk.1 ∈ xw_g) (hlk : Cond.methodLink M.1.cls idx Mk.1 ∈ xw_g) (hn : As.length = n) (hd : decode M.2.1 pc = .ok (.invokestatic idx, 3)) (hR : d + 1 ≤ R.frames ∧ 8 + (Mk.2.2.1 + 11) + 40 * d ≤ R.locals) (hw : (rest.map fun v => v.category).sum ≤ 8) (hst0 : st = As.reverse ++ rest)
    (k : XR G M R F ws (pc + 3) lv (r.toList ++ rest)) : XR G M R F ws pc lv st := by
  intro p e s m args below meth c ls hf hP hD hl
  subst hst0
  have hen := hf.2.2.2.2.2.2.2.2
  have hts : ∀ w ∈ xw_g, w.before args s = true := fun w h => hen.1 w h args
  exact xr_after (va_runS (Ts := xw_g) (own := M.1.cls) ⟨hf.1, hf.2.1, hf.2.2.1, hf.2.2.2.2.2.1, hts⟩ hM ⟨callB_of n hts (xx_good hk.1) rfl rfl rfl (hts _ hk.2.1) (hts _ hlk) hk.2.2 hR, hts _ hst⟩ ⟨xx_blind G As ws, fun U hU hW => ⟨rfl, by rw [hU]; exact hf.2.2.2.2.2.2.2.1, hen.moved hW (fun _ _ _ => by rw [hU]), by rw [hU]; exact hP, hD⟩⟩ rfl hn hl.1 rfl (lv_room hw) hd ⟨Nat.zero_le _, Nat.zero_le _⟩) (k p e s m args below meth c ls hf hP hD hl)
theorem XR.callV {Mk : XM} {n idx ci q0 b d : Nat} {As rest fs : List Value} {q : vw_C} {r : Option Value} (hM : MR G Mk (xr d 0 0) (.ref b :: As) ws r) (hk : xx_mt Mk n) (hi : Cond.instanceMethod Mk.1 ∈ xw_g ∧ Cond.selects Mk.1.cls Mk.1 Mk.1 ∈ xw_g) (hlk : Cond.methodLink M.1.cls idx Mk.1 ∈ xw_g ∨ ∃ host : String, Cond.methodLinkNest M.1.cls idx Mk.1 host ∈ xw_n) (hn : As.length = n) (hd : decode M.2.1 pc = .ok (.invokevirtual idx, 3)) (he : ws[q0]? = some (b, .inr (ci, fs))) (hc : xc_cl[ci]? = some q) (hq : q.1 = Mk.1.cls) (hR : d + 1 ≤ R.frames ∧ 8 + (Mk.2.2.1 + 11) + 40 * d ≤ R.locals) (hw : (rest.map fun v => v.category).sum ≤ 8) (hst0 : st = As.reverse ++ .ref b :: rest)
    (k : XR G M R F ws (pc + 3) lv (r.toList ++ rest)) : XR G M R F ws pc lv st := by
  intro p e s m args below meth c ls hf hP hD hl
  subst hst0
  have hen := hf.2.2.2.2.2.2.2.2
  have hts : ∀ w ∈ xw_g, w.before args s = true := fun w h => hen.1 w h args
  have hrc := va_recv hen.2.2 hP hc he
  rw [hq] at hrc
  have hp : PreV s s.heap Mk.1.cls b (xx_pc G (.ref b :: As) ws) As := ⟨xx_blind G _ ws, hrc, fun U hU hW => ⟨rfl, by rw [hU]; exact hf.2.2.2.2.2.2.2.1, hen.moved hW (fun _ _ _ => by rw [hU]), by rw [hU]; exact hP, hD⟩⟩
  rcases hlk with hlk | ⟨host, hlk⟩
  · exact xr_after (va_runV (Ts := xw_g) (own := M.1.cls) ⟨hf.1, hf.2.1, hf.2.2.1, hf.2.2.2.2.2.1, hts⟩ hM ⟨callB_of n hts (xx_good hk.1) rfl rfl rfl (hts _ hk.2.1) (hts _ hlk) hk.2.2 hR, hts _ hi.1, hts _ hi.2⟩ hp rfl hn hl.1 rfl (lv_room hw) hd ⟨Nat.zero_le _, Nat.zero_le _⟩) (k p e s m args below meth c ls hf hP hD hl)
  · exact xr_after (va_runVN (Ts := xw_g) (own := M.1.cls) ⟨hf.1, hf.2.1, hf.2.2.1, hf.2.2.2.2.2.1, hts⟩ hM ⟨va_cnB n hts (xx_good hk.1) rfl rfl rfl (hen.2.1.1 _ hlk) (hts _ hk.2.1) hk.2.2 hR, hts _ hi.1, hts _ hi.2⟩ hp rfl hn hl.1 rfl (lv_room hw) hd ⟨Nat.zero_le _, Nat.zero_le _⟩) (k p e s m args below meth c ls hf hP hD hl)
theorem XR.iret {v : Int32} (hd : decode M.2.1 pc = .ok (.ireturn, 1)) (hr : M.2.2.2 = some .int) : XR G M R (xr_F (some (.int v))) ws pc lv [.int v] := by
  intro p e s m args below meth c ls hf hP hD hl
  exact W.iret hf.1 hf.2.1 (hf.2.2.2.1.trans hr) (fun t ht hW => ⟨rfl, ht⟩) (fun q h => by cases h) hd hf.2.2.2.2.1
theorem XR.zret {v : Int32} (hd : decode M.2.1 pc = .ok (.ireturn, 1)) (hr : M.2.2.2 = some .boolean) (hn : narrow .boolean (.int v) = .int v) : XR G M R (xr_F (some (.int v))) ws pc lv [.int v] := by
  intro p e s m args below meth c ls hf hP hD hl
  exact W.zret hf.1 hf.2.1 (hf.2.2.2.1.trans hr) hn (fun t ht hW => ⟨rfl, ht⟩) (fun q h => by cases h) hd hf.2.2.2.2.1
theorem XR.aret {a : Nat} {t : FieldType} (hd : decode M.2.1 pc = .ok (.areturn, 1)) (hr : M.2.2.2 = some t) (ht : (∃ n, t = .object n) ∨ ∃ u, t = .array u) : XR G M R (xr_F (some (.ref a))) ws pc lv [.ref a] := by
  intro p e s m args below meth c ls hf hP hD hl
  exact W.aret hf.1 hf.2.1 (hf.2.2.2.1.trans hr) ht (Or.inr ⟨a, rfl⟩) (fun t ht hW => ⟨rfl, ht⟩) (fun q h => by cases h) hd hf.2.2.2.2.1
theorem XX.callSr {Mk : XM} {n idx d : Nat} {As rest : List Value} {r : Option Value} (hM : MR G Mk (xr d 0 0) As ws r) (hk : xx_mt Mk n) (hst : Cond.static Mk.1 ∈ xw_g) (hlk : Cond.methodLink M.1.cls idx Mk.1 ∈ xw_g) (hn : As.length = n) (hd : decode M.2.1 pc = .ok (.invokestatic idx, 3)) (hR : d + 1 ≤ R.frames ∧ 8 + (Mk.2.2.1 + 11) + 40 * d ≤ R.locals) (hC : cells ≤ R.cells ∧ slots ≤ R.slots) (hw : (rest.map fun v => v.category).sum ≤ 8) (hst0 : st = As.reverse ++ rest)
    (k : XX G M R F cells slots ws (pc + 3) lv (r.toList ++ rest)) : XX G M R F cells slots ws pc lv st := by
  refine XX.callS hM.mm hk hst hlk hn hd hR ⟨hC.1, hC.2⟩ hw hst0 (fun r1 ws1 h => ?_)
  obtain ⟨h1, h2⟩ := h
  rw [h1, h2]
  exact k
theorem XX.callVr {Mk : XM} {n idx ci q0 b d : Nat} {As rest fs : List Value} {q : vw_C} {r : Option Value} (hM : MR G Mk (xr d 0 0) (.ref b :: As) ws r) (hk : xx_mt Mk n) (hi : Cond.instanceMethod Mk.1 ∈ xw_g ∧ Cond.selects Mk.1.cls Mk.1 Mk.1 ∈ xw_g) (hlk : Cond.methodLink M.1.cls idx Mk.1 ∈ xw_g ∨ ∃ host : String, Cond.methodLinkNest M.1.cls idx Mk.1 host ∈ xw_n) (hn : As.length = n) (hd : decode M.2.1 pc = .ok (.invokevirtual idx, 3)) (he : ws[q0]? = some (b, .inr (ci, fs))) (hc : xc_cl[ci]? = some q) (hq : q.1 = Mk.1.cls) (hR : d + 1 ≤ R.frames ∧ 8 + (Mk.2.2.1 + 11) + 40 * d ≤ R.locals) (hC : cells ≤ R.cells ∧ slots ≤ R.slots) (hw : (rest.map fun v => v.category).sum ≤ 8) (hst0 : st = As.reverse ++ .ref b :: rest)
    (k : XX G M R F cells slots ws (pc + 3) lv (r.toList ++ rest)) : XX G M R F cells slots ws pc lv st := by
  refine XX.callV hM.mm hk hi hlk hn hd he hc hq hR ⟨hC.1, hC.2⟩ hw hst0 (fun r1 ws1 h => ?_)
  obtain ⟨h1, h2⟩ := h
  rw [h1, h2]
  exact k
end
end
section
theorem xn_le {a b : Nat} (h : Nat.ble a b = true) : a ≤ b := Nat.le_of_ble_eq_true h
theorem xn_dec {a : Nat} (h : 1 ≤ a) : nI a + Int32.ofInt (-1) = nI (a - 1) := by
  have e : nI a = nI (a - 1) + 1 := by rw [← nI_succ]; congr 1; omega
  rw [e, Int32.add_assoc]
  have e2 : (1 : Int32) + Int32.ofInt (-1) = 0 := by decide
  rw [e2, Int32.add_zero]
theorem xn_inc (a k : Nat) : nI a + Int32.ofInt (k : Int) = nI (a + k) := by
  have e : Int32.ofInt (k : Int) = nI k := by
    simp [nI, Int32.ofInt_eq_ofNat]
  rw [e, nI_add]
theorem xn_ne0 {a : Nat} (h : 0 < a) (h2 : a < 2 ^ 31) : ¬ nI a = 0 := nI_ne0 h h2
theorem xn_lt {a b : Nat} (ha : a < 2 ^ 31) (hb : b < 2 ^ 31) : (nI a < nI b) ↔ a < b := by
  rw [Int32.lt_iff_toInt_lt, nI_toInt ha, nI_toInt hb]; omega
theorem xn_leI {a b : Nat} (ha : a < 2 ^ 31) (hb : b < 2 ^ 31) : (nI a ≤ nI b) ↔ a ≤ b := by
  rw [Int32.le_iff_toInt_le, nI_toInt ha, nI_toInt hb]; omega
theorem xn_inj {a b : Nat} (ha : a < 2 ^ 31) (hb : b < 2 ^ 31) : (nI a = nI b) ↔ a = b := by
  constructor
  · intro h
    have := congrArg Int32.toInt h
    rw [nI_toInt ha, nI_toInt hb] at this
    omega
  · intro h; rw [h]
theorem xn_min {a b : Nat} (ha : a < 2 ^ 31) (hb : b < 2 ^ 31) : (if nI b < nI a then nI b else nI a) = nI (min a b) := by
  by_cases h : b < a
  · rw [if_pos ((xn_lt hb ha).mpr h), Nat.min_eq_right (by omega)]
  · rw [if_neg (fun z => h ((xn_lt hb ha).mp z)), Nat.min_eq_left (by omega)]
theorem xn_max {a b : Nat} (ha : a < 2 ^ 31) (hb : b < 2 ^ 31) : (if nI a < nI b then nI b else nI a) = nI (max a b) := by
  by_cases h : a < b
  · rw [if_pos ((xn_lt ha hb).mpr h), Nat.max_eq_right (by omega)]
  · rw [if_neg (fun z => h ((xn_lt ha hb).mp z)), Nat.max_eq_left (by omega)]
def bI (b : Bool) : Int32 := if b = true then nI 1 else nI 0
theorem bI_nar (b : Bool) : narrow .boolean (.int (bI b)) = .int (bI b) := by cases b <;> rfl
theorem bI_t {b : Bool} (h : b = true) : bI b = nI 1 := by rw [h]; rfl
theorem bI_f {b : Bool} (h : b = false) : bI b = nI 0 := by rw [h]; rfl
theorem bI_0 {b : Bool} : (bI b = 0) ↔ b = false := by
  cases b
  · exact ⟨fun _ => rfl, fun _ => by decide⟩
  · exact ⟨fun h => absurd h (by decide), fun h => absurd h (by decide)⟩
section
variable {G : XG} {M : XM} {R : Room} {F : XF} {cells slots : Nat} {ws : va_W} {pc : Nat} {lv : List (Nat × Value)} {st : List Value}
theorem XX.callSx {Mk : XM} {n idx d : Nat} {As rest : List Value} {r : Option Value} {ws2 : va_W} (hM : MM G Mk (xr d 0 0) As ws (RX r ws2)) (hk : xx_mt Mk n) (hst : Cond.static Mk.1 ∈ xw_g) (hlk : Cond.methodLink M.1.cls idx Mk.1 ∈ xw_g) (hn : As.length = n) (hd : decode M.2.1 pc = .ok (.invokestatic idx, 3)) (hR : d + 1 ≤ R.frames ∧ 8 + (Mk.2.2.1 + 11) + 40 * d ≤ R.locals) (hC : cells ≤ R.cells ∧ slots ≤ R.slots) (hw : (rest.map fun v => v.category).sum ≤ 8) (hst0 : st = As.reverse ++ rest)
    (k : XX G M R F cells slots ws2 (pc + 3) lv (r.toList ++ rest)) : XX G M R F cells slots ws pc lv st := by
  refine XX.callS hM hk hst hlk hn hd hR ⟨hC.1, hC.2⟩ hw hst0 (fun r1 ws1 h => ?_)
  obtain ⟨h1, h2⟩ := h
  rw [h1, h2]
  exact k
theorem XX.callVx {Mk : XM} {n idx ci q0 b d : Nat} {As rest fs : List Value} {q : vw_C} {r : Option Value} {ws2 : va_W} (hM : MM G Mk (xr d 0 0) (.ref b :: As) ws (RX r ws2)) (hk : xx_mt Mk n) (hi : Cond.instanceMethod Mk.1 ∈ xw_g ∧ Cond.selects Mk.1.cls Mk.1 Mk.1 ∈ xw_g) (hlk : Cond.methodLink M.1.cls idx Mk.1 ∈ xw_g ∨ ∃ host : String, Cond.methodLinkNest M.1.cls idx Mk.1 host ∈ xw_n) (hn : As.length = n) (hd : decode M.2.1 pc = .ok (.invokevirtual idx, 3)) (he : ws[q0]? = some (b, .inr (ci, fs))) (hc : xc_cl[ci]? = some q) (hq : q.1 = Mk.1.cls) (hR : d + 1 ≤ R.frames ∧ 8 + (Mk.2.2.1 + 11) + 40 * d ≤ R.locals) (hC : cells ≤ R.cells ∧ slots ≤ R.slots) (hw : (rest.map fun v => v.category).sum ≤ 8) (hst0 : st = As.reverse ++ .ref b :: rest)
    (k : XX G M R F cells slots ws2 (pc + 3) lv (r.toList ++ rest)) : XX G M R F cells slots ws pc lv st := by
  refine XX.callV hM hk hi hlk hn hd he hc hq hR ⟨hC.1, hC.2⟩ hw hst0 (fun r1 ws1 h => ?_)
  obtain ⟨h1, h2⟩ := h
  rw [h1, h2]
  exact k
theorem XX.bif_eq {b : Bool} {off : Int} {tgt : Nat} (hd : decode M.2.1 pc = .ok (.ifCond .eq off, 3)) (ht : (pc : Int) + off = (tgt : Int)) (kt : b = false → XX G M R F cells slots ws tgt lv st) (kf : b = true → XX G M R F cells slots ws (pc + 3) lv st) : XX G M R F cells slots ws pc lv (.int (bI b) :: st) :=
  XX.if_eq hd ht (fun h => kt (bI_0.mp h)) (fun h => kf (by cases b with | true => rfl | false => exact absurd (bI_0.mpr rfl) h))
theorem XX.bif_ne {b : Bool} {off : Int} {tgt : Nat} (hd : decode M.2.1 pc = .ok (.ifCond .ne off, 3)) (ht : (pc : Int) + off = (tgt : Int)) (kt : b = true → XX G M R F cells slots ws tgt lv st) (kf : b = false → XX G M R F cells slots ws (pc + 3) lv st) : XX G M R F cells slots ws pc lv (.int (bI b) :: st) :=
  XX.if_ne hd ht (fun h => kt (by cases b with | true => rfl | false => exact absurd (bI_0.mpr rfl) h)) (fun h => kf (bI_0.mp h))
theorem XR.bif_eq {b : Bool} {off : Int} {tgt : Nat} (hd : decode M.2.1 pc = .ok (.ifCond .eq off, 3)) (ht : (pc : Int) + off = (tgt : Int)) (kt : b = false → XR G M R F ws tgt lv st) (kf : b = true → XR G M R F ws (pc + 3) lv st) : XR G M R F ws pc lv (.int (bI b) :: st) :=
  XR.if_eq hd ht (fun h => kt (bI_0.mp h)) (fun h => kf (by cases b with | true => rfl | false => exact absurd (bI_0.mpr rfl) h))
theorem XR.bif_ne {b : Bool} {off : Int} {tgt : Nat} (hd : decode M.2.1 pc = .ok (.ifCond .ne off, 3)) (ht : (pc : Int) + off = (tgt : Int)) (kt : b = true → XR G M R F ws tgt lv st) (kf : b = false → XR G M R F ws (pc + 3) lv st) : XR G M R F ws pc lv (.int (bI b) :: st) :=
  XR.if_ne hd ht (fun h => kt (by cases b with | true => rfl | false => exact absurd (bI_0.mpr rfl) h)) (fun h => kf (bI_0.mp h))
theorem XX.tv {v w : Value} (h : v = w) (k : XX G M R F cells slots ws pc lv (w :: st)) : XX G M R F cells slots ws pc lv (v :: st) := by rw [h]; exact k
theorem XR.tv {v w : Value} (h : v = w) (k : XR G M R F ws pc lv (w :: st)) : XR G M R F ws pc lv (v :: st) := by rw [h]; exact k
end
end
section
/-! Methods that return or throw -/
def xx_qt (G : XG) (P : Option Value → va_W → Prop) (E : String → va_W → Prop) : Array Value → State → Outcome → State → Prop := fun _ st o t => va_F (xg_A G) st t ∧ ((∃ (r : Option Value) (ws : va_W), o = .returned r ∧ P r ws ∧ va_P G.1 xc_cl ws t.heap ∧ va_D (xg_A G) ws) ∨ ∃ (a : Nat) (X : String) (ws : va_W) (ce : Cell), o = .threw a ∧ E X ws ∧ va_P G.1 xc_cl ws t.heap ∧ va_D (xg_A G) ws ∧ t.heap[a]? = some ce ∧ ce.vm = .none ∧ t.vm.findClass X = some ce.cls)
def xx_fe (first : State) (t : State) (L : List Loc) (k n : Nat) : Prop := first.WarmedH t.vm ∧ first.sameButNew ({ t with vm := first.vm } : State) L k n
def xx_FT (G : XG) (P : Option Value → va_W → Prop) (E : String → va_W → Prop) (rm : Room) : XF := fun below args s t => ∃ o, t.status = .running ∧ Ended t below o ∧ xx_qt G P E args s o t ∧ ∃ L, xx_fe s t L rm.cells rm.slots ∧ ∀ q ∈ L, xg_A G q.base
def MT (G : XG) (M : XM) (rm : Room) (av : List Value) (ws : va_W) (P : Option Value → va_W → Prop) (E : String → va_W → Prop) : Prop :=
  MetFree G.2.2.2 M.1 (headSpec (xx_ws M) rm) (xx_pc G av ws) (fun _ _ _ _ _ => True) (fun a st o t => xx_qt G P E a st o t ∧ ∃ L, xx_fe st t L rm.cells rm.slots ∧ ∀ q ∈ L, xg_A G q.base)
theorem xx_FT_of {G : XG} {P : Option Value → va_W → Prop} {E : String → va_W → Prop} {rm : Room} {below : List Frame} {args : Array Value} {s t : State} (h : xx_F G P rm below args s t) : xx_FT G P E rm below args s t := by
  obtain ⟨o, h1, h2, ⟨h3, r, ws, h4⟩, L, ⟨h5, h6, h7⟩, h8⟩ := h
  exact ⟨o, h1, h2, ⟨h3, Or.inl ⟨r, ws, h4⟩⟩, L, ⟨h6, h7⟩, h8⟩
theorem MT.of {G : XG} {M : XM} {rm : Room} {av : List Value} {ws : va_W} {P : Option Value → va_W → Prop} {E : String → va_W → Prop} (hy : plainName M.1.cls = true) (hlen : (lg_sl av).length ≤ M.2.2.1)
    (h : XR G M rm (xx_FT G P E rm) ws 0 (lv_args 0 av) []) : MT G M rm av ws P E := by
  refine MetFree.of_bodyS (code := M.2.1) (maxLocals := M.2.2.1) (ret := M.2.2.2) hy ?_ ?_
  · intro args s m h hn
    obtain ⟨meth, c, h1, h2, h3, h4, h5, h6, -, -⟩ := Cond.code_spec hn (atoms_spec (ws := xx_ws M) h _ List.mem_cons_self)
    exact ⟨meth, c, h1, h2, h3, h4, h5, h6⟩
  · intro p e s m args below meth c s₁ B hml hv _
    have hh0 : s₁.heap = s.heap := by rw [B.state]; rfl
    obtain ⟨rfl, hbase, hen, hP, hD⟩ := hv
    have hl := lv_entry av (n := M.2.2.1) hlen
    have k := h p e s m av.toArray below meth c _ ⟨B.exec, B.bytes, hml, B.returns, B.notSynchronized, findClass_of_methodNamed B.named, Or.inl ⟨(name_of_methodNamed B.named B.method).1, B.named⟩, hbase, hen⟩ hP hD hl
    rw [← lg_entry_eq] at k
    obtain ⟨t, a1, o, b1, b2, b3⟩ := k s₁ hh0 (Stand.of_body B)
    exact ⟨t, o, a1, b1, b2, b3⟩
section
variable {G : XG} {M : XM} {R : Room} {F F2 : XF} {cells slots : Nat} {ws : va_W} {pc : Nat} {lv : List (Nat × Value)} {st : List Value}
theorem XX.mono (h : ∀ below args s t, F below args s t → F2 below args s t) (k : XX G M R F cells slots ws pc lv st) : XX G M R F2 cells slots ws pc lv st := by
  intro p e s m args below meth c H locs ls hf hP hD hS hl T hT X
  obtain ⟨t, a, b⟩ := k p e s m args below meth c H locs ls hf hP hD hS hl T hT X
  exact ⟨t, a, h _ _ _ _ b⟩
/-- from here on the method returns -/
theorem XX.ft {P : Option Value → va_W → Prop} {E : String → va_W → Prop} {rm : Room} (k : XX G M R (xx_F G P rm) cells slots ws pc lv st) : XX G M R (xx_FT G P E rm) cells slots ws pc lv st := XX.mono (fun _ _ _ _ h => xx_FT_of h) k
end
theorem xx_same {s U : State} {k n : Nat} (h : s.sameButNew ({ U with vm := s.vm } : State) [] k n) : s.heap.size ≤ U.heap.size ∧ ∀ q : Nat, q < s.heap.size → U.heap[q]? = s.heap[q]? := by
  refine ⟨h.2.1, fun q hq => ?_⟩
  have e1 : s.heap[q]? = some s.heap[q] := Array.getElem?_eq_getElem hq
  obtain ⟨c2, h1, h2, h3, h4⟩ := h.2.2.2.2.2 q _ e1
  have h5 : c2.slots = s.heap[q].slots := Array.ext_getElem? (fun i => h4 i (by simp))
  have h6 : U.heap[q]? = some c2 := h1
  rw [h6, e1, h2, h5]
theorem xx_isRef {C n d : String} {v : Value} {A : Nat → Prop} {s : State} {args : Array Value} (h : va_Z C n d v A s s.heap) (hv : v = .null ∨ ∃ t, v = .ref t) : (Cond.isRef (.static C n d)).before args s = true := by
  obtain ⟨cf, kf, fi, f, a, cell, h1, h2, h3, h4, h5, h6, h7, h8⟩ := h
  rcases hv with rfl | ⟨t, rfl⟩
  · simp [Cond.before, Cond.holds, Cond.value, Term.eval, State.fieldNamed?, h1, h2, h4, h5, h6, h7]
  · simp [Cond.before, Cond.holds, Cond.value, Term.eval, State.fieldNamed?, h1, h2, h4, h5, h6, h7]
section
variable {G : XG} {M : XM} {R : Room} {ws : va_W} {pc : Nat} {lv : List (Nat × Value)} {st : List Value}
set_option maxHeartbeats 1000000 in
/-- new X(text), athrow: the method ends with an X -/
theorem XR.throw {idx ic sx : Nat} {X tx : String} {names : List String} {rm : Room} {P : Option Value → va_W → Prop} {E : String → va_W → Prop}
    (h1 : Cond.classLink M.1.cls idx X ∈ xw_g) (h2 : Cond.instantiable X 6 ∈ xw_g) (h3 : Cond.initialized X ∈ xw_g) (h4 : (M.1.cls, sx, tx) ∈ xw_s)
    (h5 : ∀ w ∈ Bundle.ownAtoms M.1.cls ic X names, w ∈ xw_g ∨ w ∈ xw_n ∨ w = .isRef (.static "java/lang/Throwable" "UNASSIGNED_STACK" "[Ljava/lang/StackTraceElement;") ∨ w = .isRef (.static "java/lang/Throwable" "SUPPRESSED_SENTINEL" "Ljava/util/List;"))
    (h6 : Cond.code M.1 M.2.1 M.2.2.1 M.2.2.2 ∈ xw_g) (hnl : M.1.name ≠ "law") (hX : Bundle.fit X = true) (hN : ∀ n ∈ names, Bundle.fit n = true) (htr : ∀ e : Env, G.2.2.2.admits e → e.platform.stackTraces = false)
    (d0 : decode M.2.1 pc = .ok (.new idx, 3)) (d3 : decode M.2.1 (pc + 3) = .ok (.dup, 1)) (d4 : decode M.2.1 (pc + 3 + 1) = .ok (.ldc sx, 2)) (d6 : decode M.2.1 (pc + 3 + 1 + 2) = .ok (.invokespecial ic, 3)) (d9 : decode M.2.1 (pc + 3 + 1 + 2 + 3) = .ok (.athrow, 1))
    (hR : names.length + 3 < R.frames) (hRl : (st.map fun v => v.category).sum + 1 + (13 * (names.length + 1) + 42) ≤ R.locals) (hc : 1 ≤ R.cells ∧ 6 ≤ R.slots) (hrm : 1 ≤ rm.cells ∧ 6 ≤ rm.slots) (hE : E X ws) :
    XR G M R (xx_FT G P E rm) ws pc lv st := by
  intro p e s m args below meth c ls hf hP hD hl
  have hen := hf.2.2.2.2.2.2.2.2
  have hown := hf.2.2.2.2.2.1
  refine W.newc hf.1 hf.2.1 hown (hen.1 _ h1 args) (hen.1 _ h2 args) (hen.1 _ h3 args) (g := F0 m pc ls st) rfl d0 (by omega) (by omega) (fun cC kC e1 e2 e3 e4 => ?_)
  obtain ⟨a, hs⟩ := hen.2.1.2.1 _ h4
  refine W.eq (g2 := F0 m (pc + 3) ls (.ref s.heap.size :: st)) rfl ?_
  refine lv_dup hf.1 hf.2.1 d3 rfl ?_
  refine va_ldcS hf.1 hf.2.1 hown hs d4 ?_
  intro T hT X0
  have hnm : s.methodNamed? M.1 = some m := by
    rcases hf.2.2.2.2.2.2.1 with h | h
    · exact h.2
    · exact absurd h hnl
  have hex : c.exceptionTable.toList = [] := by
    obtain ⟨meth2, c2, q1, q2, -, -, -, -, q3, -⟩ := Cond.code_spec hnm (hen.1 _ h6 args)
    cases Option.some.inj (q1.symm.trans X0.method)
    cases Option.some.inj (q2.symm.trans X0.code)
    have q4 : c.exceptionTable = #[] := by simpa using q3
    rw [q4]
  have hat : ∀ w ∈ Bundle.ownAtoms M.1.cls ic X names, w.before args s = true := by
    intro w hw
    rcases h5 w hw with h | h | h | h
    · exact hen.1 w h args
    · have h7 := hen.2.1.1 w h
      have h8 := (List.mem_filter.mp h).2
      refine va_Nw.use ?_ h7
      cases w <;> first | (simp [xw_isN] at h8; done) | rfl
    · rw [h]
      rcases hen.2.1.2.2.1 with h9 | ⟨t, h9⟩
      · exact xx_isRef h9 (Or.inl rfl)
      · exact xx_isRef h9 (Or.inr ⟨t, rfl⟩)
    · rw [h]
      rcases hen.2.1.2.2.2 with h9 | ⟨t, h9⟩
      · exact xx_isRef h9 (Or.inl rfl)
      · exact xx_isRef h9 (Or.inr ⟨t, rfl⟩)
  obtain ⟨U, s1, s2, s3, s4, s5, ce, s6, s7⟩ := X0.ctorThrowS hf.1 (htr e X0.admits) hown hX hN hat (fun x hx => by cases hx) e1 e2 (a := s.heap.size) (by rw [hT]; simp) (Nat.le_refl _) (msg := .ref a) rfl
    (g := F0 m (pc + 3 + 1 + 2) ls (.ref a :: .ref s.heap.size :: .ref s.heap.size :: st)) rfl (by rw [hf.2.2.1]; exact hl.1) rfl rfl (rest := st) rfl (by rw [hf.2.1]; exact d6) (by rw [hf.2.1]; exact d9) (by rw [hex]; intro x hx; cases hx) hR
    (by show 2 * 0 + ((Value.ref s.heap.size :: st).map fun v => v.category).sum + _ ≤ _; simp only [List.map_cons, List.sum_cons]; have : (Value.ref s.heap.size).category = 1 := rfl; omega) hf.2.2.2.2.1
  obtain ⟨z1, z2⟩ := xx_same s5
  refine ⟨U, s1, .threw s.heap.size, s2, s3, ⟨⟨z1, fun q h _ => z2 q h⟩, Or.inr ⟨_, X, ws, ce, rfl, hE, hP.kept (fun k q hq => z2 _ (hP k q hq).lt), hD, s6, s7.vm, ?_⟩⟩, [], ⟨s4, s5.weaken (fun _ h _ => h) hrm.1 hrm.2⟩, fun q h => by cases h⟩
  rw [s4.alike.findClass]
  exact s7.cls
end
end
section
/-! Scanning: over a < to while p -/
def sk_n (p : Nat → Bool) : Nat → Nat → Nat
  | 0, a => a
  | n + 1, a => if p a = true then sk_n p n (a + 1) else a
def sk (p : Nat → Bool) (to a : Nat) : Nat := sk_n p (to - a) a
theorem sk_step {p : Nat → Bool} {to a : Nat} (h : a < to) (hp : p a = true) : sk p to a = sk p to (a + 1) := by
  unfold sk
  rw [show to - a = (to - (a + 1)) + 1 by omega, sk_n, if_pos hp]
theorem sk_stop {p : Nat → Bool} {to a : Nat} (h : a < to → p a = false) : sk p to a = a := by
  unfold sk
  by_cases h1 : a < to
  · rw [show to - a = (to - (a + 1)) + 1 by omega, sk_n, if_neg (by rw [h h1]; decide)]
  · rw [show to - a = 0 by omega, sk_n]
theorem sk_ge (p : Nat → Bool) (to a : Nat) : a ≤ sk p to a := by
  unfold sk
  generalize to - a = n
  induction n generalizing a with
  | zero => exact Nat.le_refl _
  | succ n ih => rw [sk_n]; split; exact Nat.le_trans (by omega) (ih (a + 1)); exact Nat.le_refl _
theorem sk_le {p : Nat → Bool} {to a : Nat} (h : a ≤ to) : sk p to a ≤ to := by
  unfold sk
  have : ∀ n a, a + n ≤ to → sk_n p n a ≤ to := by
    intro n
    induction n with
    | zero => intro a h; exact h
    | succ n ih => intro a h; rw [sk_n]; split; exact ih (a + 1) (by omega); omega
  exact this _ _ (by omega)
theorem sk_end {p : Nat → Bool} {to a : Nat} (h : sk p to a < to) : p (sk p to a) = false := by
  unfold sk at *
  have : ∀ n a, a + n = to ∨ n = 0 → sk_n p n a < to → a + n ≤ to → p (sk_n p n a) = false ∨ n = 0 := by
    intro n
    induction n with
    | zero => intro a h h2 h3; exact Or.inr rfl
    | succ n ih =>
      intro a h h2 h3
      rw [sk_n] at h2 ⊢
      by_cases hp : p a = true
      · rw [if_pos hp] at h2 ⊢
        have h4 := ih (a + 1) (by omega) h2 (by omega)
        rcases h4 with h4 | h4
        · exact Or.inl h4
        · subst h4; rw [sk_n] at h2; omega
      · rw [if_neg hp]; left; simpa using hp
  by_cases hz : to - a = 0
  · rw [hz, sk_n] at h; omega
  · rcases this (to - a) a (by omega) h (by omega) with h4 | h4
    · exact h4
    · exact absurd h4 hz
theorem sk_cong {p p2 : Nat → Bool} {to a : Nat} (h : ∀ i, a ≤ i → i < to → p i = p2 i) : sk p to a = sk p2 to a := by
  unfold sk
  have : ∀ n a, a + n ≤ to ∨ n = 0 → (∀ i, a ≤ i → i < to → p i = p2 i) → sk_n p n a = sk_n p2 n a := by
    intro n
    induction n with
    | zero => intro a _ _; rfl
    | succ n ih =>
      intro a h1 h2
      rw [sk_n, sk_n, h2 a (Nat.le_refl _) (by omega)]
      split
      · exact ih (a + 1) (by omega) (fun i h3 h4 => h2 i (by omega) h4)
      · rfl
  exact this _ _ (by omega) h
def pb_dig (B : Nat → Int32) (i : Nat) : Bool := !decide (B i < nI 48) && !decide (nI 57 < B i)
def pb_blk (B : Nat → Int32) (i : Nat) : Bool := decide (B i = nI 32) || decide (B i = nI 9)
def pb_sep (B : Nat → Int32) (sep : Int32) (i : Nat) : Bool := !decide (B i &&& nI 255 = sep)
theorem sk_le2 {p : Nat → Bool} {to a m : Nat} (h1 : a ≤ m) (h2 : to ≤ m) : sk p to a ≤ m := by
  by_cases h : a ≤ to
  · exact Nat.le_trans (sk_le h) h2
  · rw [sk_stop (fun z => absurd z (by omega))]; exact h1
theorem upd_upd (f : Nat → Int32) (k : Nat) (a b : Int32) : upd (upd f k a) k b = upd f k b := by
  funext j
  unfold upd
  by_cases h : j = k
  · rw [if_pos h, if_pos h]
  · rw [if_neg h, if_neg h, if_neg h]
end
section
/-! Comparisons that are orders -/
def gc {α : Type} (c : α → α → Ordering) : Prop := (∀ a b, c b a = (c a b).swap) ∧ ∀ a b d, c a b ≠ .gt → c b d ≠ .gt → c a d ≠ .gt
theorem gc.rf {α : Type} {c : α → α → Ordering} (h : gc c) (a : α) : c a a = .eq := by
  have h1 := h.1 a a
  cases h2 : c a a with
  | eq => rfl
  | lt => rw [h2] at h1; cases h1
  | gt => rw [h2] at h1; cases h1
theorem gc.eqs {α : Type} {c : α → α → Ordering} (h : gc c) {a b : α} (h1 : c a b = .eq) : c b a = .eq := by rw [h.1 a b, h1]; rfl
theorem gc.eqt {α : Type} {c : α → α → Ordering} (h : gc c) {a b d : α} (h1 : c a b = .eq) (h2 : c b d = .eq) : c a d = .eq := by
  have h3 := h.2 a b d (by rw [h1]; decide) (by rw [h2]; decide)
  have h4 := h.2 d b a (by rw [h.eqs h2]; decide) (by rw [h.eqs h1]; decide)
  have h5 := h.1 a d
  cases h6 : c a d with
  | eq => exact Eq.refl _
  | lt => rw [h6] at h5; exact absurd h5 h4
  | gt => exact absurd h6 h3
theorem gc.ltle {α : Type} {c : α → α → Ordering} (h : gc c) {a b d : α} (h1 : c a b = .lt) (h2 : c b d ≠ .gt) : c a d = .lt := by
  have h3 := h.2 a b d (by rw [h1]; decide) h2
  cases h6 : c a d with
  | lt => exact Eq.refl _
  | gt => exact absurd h6 h3
  | eq =>
    have h7 := h.2 b d a h2 (by rw [h.eqs h6]; decide)
    rw [h.1 a b, h1] at h7
    exact absurd (Eq.refl _) h7
theorem gc.lelt {α : Type} {c : α → α → Ordering} (h : gc c) {a b d : α} (h1 : c a b ≠ .gt) (h2 : c b d = .lt) : c a d = .lt := by
  have h3 := h.2 a b d h1 (by rw [h2]; decide)
  cases h6 : c a d with
  | lt => exact Eq.refl _
  | gt => exact absurd h6 h3
  | eq =>
    have h7 := h.2 d a b (by rw [h.eqs h6]; decide) h1
    rw [h.1 b d, h2] at h7
    exact absurd (Eq.refl _) h7
theorem gc.sw {α : Type} {c : α → α → Ordering} (h : gc c) : gc (fun a b => (c a b).swap) := by
  refine ⟨fun a b => by show (c b a).swap = (c a b).swap.swap; rw [h.1 a b], fun a b d h1 h2 => ?_⟩
  show (c a d).swap ≠ .gt
  have h1 : (c a b).swap ≠ .gt := h1
  have h2 : (c b d).swap ≠ .gt := h2
  rw [← h.1] at h1 h2 ⊢
  exact h.2 d b a h2 h1
theorem gc.map {α β : Type} {c : β → β → Ordering} (h : gc c) (f : α → β) : gc (fun a b => c (f a) (f b)) := ⟨fun a b => h.1 _ _, fun a b d h1 h2 => h.2 _ _ _ h1 h2⟩
/-- one after the other; what comes second may go by what the first has the same -/
theorem gc.dep {α : Type} {c1 c2 c3 : α → α → Ordering} {p : α → Bool} (h1 : gc c1) (h2 : gc c2) (h3 : gc c3) (hp : ∀ a b, c1 a b = .eq → p a = p b) : gc (fun a b => (c1 a b).then (if p a = true then c2 a b else c3 a b)) := by
  have sw : ∀ a b, c1 a b = .eq → (if p b = true then c2 b a else c3 b a) = (if p a = true then c2 a b else c3 a b).swap := by
    intro a b h
    rw [hp a b h]
    split
    · exact h2.1 a b
    · exact h3.1 a b
  have tr : ∀ a b d, c1 a b = .eq → c1 b d = .eq → (if p a = true then c2 a b else c3 a b) ≠ .gt → (if p b = true then c2 b d else c3 b d) ≠ .gt → (if p a = true then c2 a d else c3 a d) ≠ .gt := by
    intro a b d e1 e2
    rw [← hp a b e1]
    split
    · exact h2.2 a b d
    · exact h3.2 a b d
  refine ⟨fun a b => ?_, fun a b d k1 k2 => ?_⟩
  · show (c1 b a).then _ = ((c1 a b).then _).swap
    cases h : c1 a b with
    | lt => rw [h1.1 a b, h]; rfl
    | gt => rw [h1.1 a b, h]; rfl
    | eq => rw [h1.eqs h]; exact sw a b h
  · show (c1 a d).then _ ≠ .gt
    have k1 : (c1 a b).then _ ≠ .gt := k1
    have k2 : (c1 b d).then _ ≠ .gt := k2
    cases e1 : c1 a b with
    | gt => rw [e1] at k1; exact absurd (Eq.refl _) k1
    | lt =>
      have : c1 b d ≠ .gt := fun z => by rw [z] at k2; exact k2 (Eq.refl _)
      rw [h1.ltle e1 this]; intro z; cases z
    | eq =>
      cases e2 : c1 b d with
      | gt => rw [e2] at k2; exact absurd (Eq.refl _) k2
      | lt => rw [h1.lelt (by rw [e1]; decide) e2]; intro z; cases z
      | eq =>
        rw [e1] at k1
        rw [e2] at k2
        rw [h1.eqt e1 e2]
        exact tr a b d e1 e2 k1 k2
theorem gc.thn {α : Type} {c1 c2 : α → α → Ordering} (h1 : gc c1) (h2 : gc c2) : gc (fun a b => (c1 a b).then (c2 a b)) := by
  have h := gc.dep (p := fun _ => true) h1 h2 h2 (fun _ _ _ => rfl)
  simpa using h
theorem gc.const {α : Type} : gc (fun _ _ : α => Ordering.eq) := ⟨fun _ _ => rfl, fun _ _ _ _ _ h => by cases h⟩
/-- numbers -/
def oi (x y : Int32) : Ordering := if x = y then .eq else if x < y then .lt else .gt
theorem gc_oi : gc oi := by
  have tri : ∀ x y : Int32, ¬ x = y → ¬ x < y → y < x := by
    intro x y h1 h2
    rw [Int32.lt_iff_toInt_lt] at h2 ⊢
    have : x.toInt ≠ y.toInt := fun z => h1 (Int32.toInt_inj.mp z)
    omega
  refine ⟨fun x y => ?_, fun x y z h1 h2 => ?_⟩
  · unfold oi
    by_cases h : x = y
    · subst h; simp
    · rw [if_neg h, if_neg (fun z => h z.symm)]
      by_cases h2 : x < y
      · have : ¬ y < x := by rw [Int32.lt_iff_toInt_lt] at h2 ⊢; omega
        rw [if_pos h2, if_neg this]; rfl
      · rw [if_neg h2, if_pos (tri x y h h2)]; rfl
  · unfold oi at *
    by_cases e1 : x = y
    · subst e1; exact h2
    · by_cases e2 : y = z
      · subst e2; exact h1
      · rw [if_neg e1] at h1
        rw [if_neg e2] at h2
        have a1 : x < y := by
          by_cases h : x < y
          · exact h
          · rw [if_neg h] at h1; exact absurd rfl h1
        have a2 : y < z := by
          by_cases h : y < z
          · exact h
          · rw [if_neg h] at h2; exact absurd rfl h2
        have a3 : x < z := by rw [Int32.lt_iff_toInt_lt] at *; omega
        have a4 : ¬ x = z := fun q => by rw [q, Int32.lt_iff_toInt_lt] at a3; omega
        rw [if_neg a4, if_pos a3]; decide
def on (x y : Nat) : Ordering := if x = y then .eq else if x < y then .lt else .gt
theorem gc_on : gc on := by
  refine ⟨fun x y => ?_, fun x y z h1 h2 => ?_⟩
  · unfold on
    by_cases h : x = y
    · subst h; simp
    · rw [if_neg h, if_neg (fun z => h z.symm)]
      by_cases h2 : x < y
      · rw [if_pos h2, if_neg (by omega)]; rfl
      · rw [if_neg h2, if_pos (by omega)]; rfl
  · unfold on at *
    have a1 : x ≤ y := by
      by_cases e : x = y
      · omega
      · by_cases h : x < y
        · omega
        · rw [if_neg e, if_neg h] at h1; exact absurd rfl h1
    have a2 : y ≤ z := by
      by_cases e : y = z
      · omega
      · by_cases h : y < z
        · omega
        · rw [if_neg e, if_neg h] at h2; exact absurd rfl h2
    by_cases e : x = z
    · rw [if_pos e]; decide
    · rw [if_neg e, if_pos (by omega)]; decide
/-- rows of numbers, from the left; the shorter first -/
def lx : List Int32 → List Int32 → Ordering
  | [], [] => .eq
  | [], _ :: _ => .lt
  | _ :: _, [] => .gt
  | x :: xs, y :: ys => if x = y then lx xs ys else if x < y then .lt else .gt
theorem lx_cons (x y : Int32) (xs ys : List Int32) : lx (x :: xs) (y :: ys) = (oi x y).then (lx xs ys) := by
  rw [lx, oi]
  by_cases h : x = y
  · rw [if_pos h, if_pos h]; rfl
  · rw [if_neg h, if_neg h]
    by_cases h2 : x < y
    · rw [if_pos h2]; rfl
    · rw [if_neg h2]; rfl
theorem gc_lx : gc lx := by
  have sw : ∀ a b, lx b a = (lx a b).swap := by
    intro a
    induction a with
    | nil => intro b; cases b <;> rfl
    | cons x xs ih =>
      intro b
      cases b with
      | nil => rfl
      | cons y ys =>
        rw [lx_cons, lx_cons, gc_oi.1 x y]
        cases h : oi x y with
        | lt => rfl
        | gt => rfl
        | eq => exact ih ys
  refine ⟨sw, ?_⟩
  intro a
  induction a with
  | nil => intro b d _ _; cases d <;> (intro h; cases h)
  | cons x xs ih =>
    intro b d h1 h2
    cases b with
    | nil => exact absurd rfl h1
    | cons y ys =>
      cases d with
      | nil => exact absurd rfl h2
      | cons z zs =>
        rw [lx_cons] at h1 h2 ⊢
        cases e1 : oi x y with
        | gt => rw [e1] at h1; exact absurd rfl h1
        | lt =>
          have : oi y z ≠ .gt := fun q => by rw [q] at h2; exact h2 rfl
          rw [gc_oi.ltle e1 this]; intro q; cases q
        | eq =>
          cases e2 : oi y z with
          | gt => rw [e2] at h2; exact absurd rfl h2
          | lt => rw [gc_oi.lelt (by rw [e1]; decide) e2]; intro q; cases q
          | eq =>
            rw [e1] at h1
            rw [e2] at h2
            rw [gc_oi.eqt e1 e2]
            exact ih ys zs h1 h2
/-- an order as the machine's answer -/
def oI : Ordering → Int32
  | .lt => -1
  | .eq => nI 0
  | .gt => nI 1
theorem oI_neg (o : Ordering) : -(oI o) = oI o.swap := by cases o <;> decide
theorem oI_0 (o : Ordering) : (oI o = 0) ↔ o = .eq := by cases o <;> decide
theorem oI_le (o : Ordering) : (oI o ≤ 0) ↔ o ≠ .gt := by cases o <;> decide
theorem oI_gt (o : Ordering) : (0 < oI o) ↔ o = .gt := by cases o <;> decide
theorem oI_lt (o : Ordering) : (oI o < 0) ↔ o = .lt := by cases o <;> decide
end
section
/-! Fields, keys' places, numerals: what the methods compute, word for word -/
def fl_stop (B : Nat → Int32) (sep : Int32) (to a : Nat) : Nat := if sep = -1 then sk (fun i => !pb_blk B i) to (sk (pb_blk B) to a) else sk (pb_sep B sep) to a
theorem fl_stop_ge (B : Nat → Int32) (sep : Int32) (to a : Nat) : a ≤ fl_stop B sep to a := by
  unfold fl_stop
  split
  · exact Nat.le_trans (sk_ge _ _ _) (sk_ge _ _ _)
  · exact sk_ge _ _ _
theorem fl_stop_le {B : Nat → Int32} {sep : Int32} {to a : Nat} (h : a ≤ to) : fl_stop B sep to a ≤ to := by
  unfold fl_stop
  split
  · exact sk_le (sk_le h)
  · exact sk_le h
/-- the start of the field k further -/
def fl_start (B : Nat → Int32) (sep : Int32) (to : Nat) : Nat → Nat → Option Nat
  | 0, a => some a
  | k + 1, a => if fl_stop B sep to a = to then none else fl_start B sep to k (if sep = -1 then fl_stop B sep to a else fl_stop B sep to a + 1)
theorem fl_start_le {B : Nat → Int32} {sep : Int32} {to : Nat} : ∀ {k a b : Nat}, a ≤ to → fl_start B sep to k a = some b → b ≤ to := by
  intro k
  induction k with
  | zero => intro a b h h2; rw [fl_start] at h2; cases h2; exact h
  | succ k ih =>
    intro a b h h2
    rw [fl_start] at h2
    have h3 := fl_stop_le (B := B) (sep := sep) h
    split at h2
    · cases h2
    · split at h2
      · exact ih h3 h2
      · exact ih (by omega) h2
def oN : Option Nat → Int32
  | none => -1
  | some a => nI a
def pb_pass (B : Nat → Int32) (sep : Int32) (i : Nat) : Bool := pb_blk B i && !decide (B i &&& nI 255 = sep)
def ky_begin (B : Nat → Int32) (sep fl : Int32) (ff fc st sp : Nat) : Nat :=
  match fl_start B sep sp (ff - 1) st with
  | none => sp
  | some a => min sp ((if fl &&& nI 1 = 0 then a else sk (pb_pass B sep) sp a) + fc - 1)
def ky_end (B : Nat → Int32) (sep fl : Int32) (lf lc st sp : Nat) : Nat :=
  if lf = 0 then sp else
  match fl_start B sep sp (lf - 1) st with
  | none => sp
  | some a => if lc = 0 then fl_stop B sep sp a else min sp ((if fl &&& nI 64 = 0 then a else sk (pb_pass B sep) sp a) + lc)
/-- bytes as they are compared -/
def wg_small (v : Int32) : Bool := !decide (v < nI 97) && !decide (nI 122 < v)
def wg_cap (v : Int32) : Bool := !decide (v < nI 65) && !decide (nI 90 < v)
def wg_dig (v : Int32) : Bool := !decide (v < nI 48) && !decide (nI 57 < v)
def wg_blank (v : Int32) : Bool := decide (v = nI 32) || decide (v = nI 9)
def wg_t (v fl : Int32) : Int32 :=
  if !decide (fl &&& nI 8 = 0) && (decide (v < nI 32) || decide (nI 126 < v)) then -2
  else if !decide (fl &&& nI 2 = 0) && (!wg_blank v && !wg_small v && !wg_cap v && !wg_dig v) then -2
  else if wg_small v && !decide (fl &&& nI 4 = 0) then v - nI 97 + nI 65 else v
def wl (g : Nat → Int32) : Nat → Nat → List Int32
  | 0, _ => []
  | n + 1, a => if g a = -2 then wl g n (a + 1) else g a :: wl g n (a + 1)
def wgB (B : Nat → Int32) (fl : Int32) (i : Nat) : Int32 := wg_t (B i &&& nI 255) fl
/-- the bytes from a to e as they are compared -/
def wb (B : Nat → Int32) (fl : Int32) (a e : Nat) : List Int32 := wl (wgB B fl) (e - a) a
theorem wb_nil {B : Nat → Int32} {fl : Int32} {a e : Nat} (h : e ≤ a) : wb B fl a e = [] := by
  unfold wb; rw [show e - a = 0 by omega]; rfl
theorem wb_skip {B : Nat → Int32} {fl : Int32} {a e : Nat} (h : a < e) (h2 : wgB B fl a = -2) : wb B fl a e = wb B fl (a + 1) e := by
  unfold wb; rw [show e - a = (e - (a + 1)) + 1 by omega, wl, if_pos h2]
theorem wb_cons {B : Nat → Int32} {fl : Int32} {a e : Nat} (h : a < e) (h2 : ¬ wgB B fl a = -2) : wb B fl a e = wgB B fl a :: wb B fl (a + 1) e := by
  unfold wb; rw [show e - a = (e - (a + 1)) + 1 by omega, wl, if_neg h2]
theorem b255 (x : Int32) : ∃ k : Nat, k < 256 ∧ x &&& nI 255 = nI k := ⟨x.toBitVec.toNat % 2 ^ 8, Nat.mod_lt _ (by decide), pk_and x 8 (by decide)⟩
theorem wg_nn (x fl : Int32) : wg_t (x &&& nI 255) fl = -2 ∨ ∃ k : Nat, k < 256 ∧ wg_t (x &&& nI 255) fl = nI k := by
  obtain ⟨k, hk, e⟩ := b255 x
  rw [e]
  unfold wg_t
  split
  · exact Or.inl rfl
  · split
    · exact Or.inl rfl
    · split
      · rename_i h
        right
        have h1 : ¬ nI k < nI 97 := by
          intro z
          simp [wg_small, z] at h
        rw [xn_lt (by omega) (by decide)] at h1
        exact ⟨k - 97 + 65, by omega, by rw [pk_sub (by omega), nI_add]⟩
      · exact Or.inr ⟨k, hk, rfl⟩
/-- numerals -/
def pb_zero (B : Nat → Int32) (i : Nat) : Bool := decide (B i &&& nI 255 = nI 48)
def nm_min (B : Nat → Int32) (to a : Nat) : Bool := decide (sk (pb_blk B) to a < to) && decide (B (sk (pb_blk B) to a) &&& nI 255 = nI 45)
/-- where the number's own digits begin, outer zeros left out -/
def nm_whole (B : Nat → Int32) (to a : Nat) : Nat := sk (pb_zero B) to (if nm_min B to a = true then sk (pb_blk B) to a + 1 else sk (pb_blk B) to a)
def nm_wstop (B : Nat → Int32) (to a : Nat) : Nat := sk (pb_dig B) to (nm_whole B to a)
def nm_point (B : Nat → Int32) (to a : Nat) : Bool := decide (nm_wstop B to a < to) && decide (B (nm_wstop B to a) &&& nI 255 = nI 46)
def nm_frac (B : Nat → Int32) (to a : Nat) : Nat := if nm_point B to a = true then nm_wstop B to a + 1 else nm_wstop B to a
def nm_fend (B : Nat → Int32) (to a : Nat) : Nat := if nm_point B to a = true then sk (pb_dig B) to (nm_frac B to a) else nm_frac B to a
def nm_strip (B : Nat → Int32) (lo : Nat) : Nat → Nat
  | 0 => 0
  | e + 1 => if lo < e + 1 ∧ pb_zero B e = true then nm_strip B lo e else e + 1
def nm_fstop (B : Nat → Int32) (to a : Nat) : Nat := nm_strip B (nm_frac B to a) (nm_fend B to a)
def nm_zero (B : Nat → Int32) (to a : Nat) : Bool := decide (nm_whole B to a = nm_wstop B to a) && decide (nm_frac B to a = nm_fstop B to a)
def nm_sign (B : Nat → Int32) (to a : Nat) : Int32 := if nm_zero B to a = true then nI 0 else if nm_min B to a = true then -1 else nI 1
/-! one step of comparing bytes -/
theorem cb_skip {i e : Nat} {w : Int32} (h : (if i < e then w else -1) = -2) : i < e ∧ w = -2 := by
  by_cases h1 : i < e
  · rw [if_pos h1] at h; exact ⟨h1, h⟩
  · rw [if_neg h1] at h; exact absurd h (by decide)
theorem cb_wn {B : Nat → Int32} {fl : Int32} {i e : Nat} (h : ¬ (if i < e then wgB B fl i else -1) = -2) (h1 : i < e) : ∃ k : Nat, k < 256 ∧ wgB B fl i = nI k := by
  rw [if_pos h1] at h
  rcases wg_nn (B i) fl with h2 | h2
  · exact absurd h2 h
  · exact h2
theorem cb_m1 {k : Nat} (h : k < 256) : ¬ nI k = -1 ∧ ¬ nI k < -1 ∧ (-1 : Int32) < nI k := by
  have e : (-1 : Int32).toInt = -1 := by decide
  refine ⟨fun z => ?_, fun z => ?_, ?_⟩
  · have := congrArg Int32.toInt z; rw [e, nI_toInt (by omega)] at this; omega
  · rw [Int32.lt_iff_toInt_lt, e, nI_toInt (by omega)] at z; omega
  · rw [Int32.lt_iff_toInt_lt, e, nI_toInt (by omega)]; omega
theorem cb_eq {B : Nat → Int32} {fl : Int32} {i a j b : Nat} (ho : i < a ∨ j < b) (h1 : ¬ (if i < a then wgB B fl i else -1) = -2) (h2 : ¬ (if j < b then wgB B fl j else -1) = -2) (h3 : (if i < a then wgB B fl i else -1) = (if j < b then wgB B fl j else -1)) :
    i < a ∧ j < b ∧ lx (wb B fl i a) (wb B fl j b) = lx (wb B fl (i + 1) a) (wb B fl (j + 1) b) := by
  by_cases hi : i < a
  · obtain ⟨k, hk, ek⟩ := cb_wn h1 hi
    by_cases hj : j < b
    · rw [if_pos hi] at h1 h3
      rw [if_pos hj] at h2 h3
      refine ⟨hi, hj, ?_⟩
      rw [wb_cons hi h1, wb_cons hj h2, lx_cons, h3]
      unfold oi
      rw [if_pos rfl]; rfl
    · rw [if_pos hi, if_neg hj, ek] at h3
      exact absurd h3 (cb_m1 hk).1
  · have hj : j < b := by omega
    obtain ⟨k, hk, ek⟩ := cb_wn h2 hj
    rw [if_neg hi, if_pos hj, ek] at h3
    exact absurd h3.symm (cb_m1 hk).1
theorem cb_ne {B : Nat → Int32} {fl : Int32} {i a j b : Nat} (h1 : ¬ (if i < a then wgB B fl i else -1) = -2) (h2 : ¬ (if j < b then wgB B fl j else -1) = -2) (h3 : ¬ (if i < a then wgB B fl i else -1) = (if j < b then wgB B fl j else -1)) :
    lx (wb B fl i a) (wb B fl j b) = oi (if i < a then wgB B fl i else -1) (if j < b then wgB B fl j else -1) := by
  by_cases hi : i < a
  · obtain ⟨k, hk, ek⟩ := cb_wn h1 hi
    by_cases hj : j < b
    · rw [if_pos hi] at h1 h3 ⊢
      rw [if_pos hj] at h2 h3 ⊢
      rw [wb_cons hi h1, wb_cons hj h2, lx_cons]
      unfold oi
      rw [if_neg h3]
      by_cases h4 : wgB B fl i < wgB B fl j
      · rw [if_pos h4]; rfl
      · rw [if_neg h4]; rfl
    · rw [if_pos hi] at h1 ⊢
      rw [if_neg hj, wb_cons hi h1, wb_nil (a := j) (e := b) (by omega), ek]
      unfold oi
      rw [if_neg (cb_m1 hk).1, if_neg (cb_m1 hk).2.1]; rfl
  · by_cases hj : j < b
    · obtain ⟨k, hk, ek⟩ := cb_wn h2 hj
      rw [if_pos hj] at h2 ⊢
      rw [if_neg hi, wb_cons hj h2, wb_nil (a := i) (e := a) (by omega), ek]
      unfold oi
      rw [if_neg (fun z => (cb_m1 hk).1 z.symm), if_pos (cb_m1 hk).2.2]; rfl
    · rw [if_neg hi, if_neg hj] at h3; exact absurd rfl h3
theorem nm_strip_step {B : Nat → Int32} {lo e : Nat} (h : lo < e) (hz : pb_zero B (e - 1) = true) : nm_strip B lo e = nm_strip B lo (e - 1) := by
  cases e with
  | zero => omega
  | succ e => rw [nm_strip, if_pos ⟨h, hz⟩]; rfl
theorem nm_strip_stop {B : Nat → Int32} {lo e : Nat} (h : lo < e → pb_zero B (e - 1) = false) : nm_strip B lo e = e := by
  cases e with
  | zero => rfl
  | succ e =>
    rw [nm_strip, if_neg]
    rintro ⟨h1, h2⟩
    have h3 : pb_zero B e = false := h h1
    rw [h3] at h2; cases h2
theorem nm_strip_le {B : Nat → Int32} {lo : Nat} : ∀ e, nm_strip B lo e ≤ e := by
  intro e
  induction e with
  | zero => exact Nat.le_refl _
  | succ e ih => rw [nm_strip]; split; omega; exact Nat.le_refl _
theorem nm_a_le {B : Nat → Int32} {to a m : Nat} (h1 : a ≤ m) (h2 : to ≤ m) : sk (pb_blk B) to a ≤ m := sk_le2 h1 h2
theorem nm_whole_le {B : Nat → Int32} {to a m : Nat} (h1 : a ≤ m) (h2 : to ≤ m) : nm_whole B to a ≤ m := by
  unfold nm_whole
  refine sk_le2 ?_ h2
  split
  · rename_i h
    have : sk (pb_blk B) to a < to := by simp [nm_min] at h; exact h.1
    omega
  · exact sk_le2 h1 h2
theorem nm_wstop_le {B : Nat → Int32} {to a m : Nat} (h1 : a ≤ m) (h2 : to ≤ m) : nm_wstop B to a ≤ m := sk_le2 (nm_whole_le h1 h2) h2
theorem nm_frac_le {B : Nat → Int32} {to a m : Nat} (h1 : a ≤ m) (h2 : to ≤ m) : nm_frac B to a ≤ m := by
  unfold nm_frac
  split
  · rename_i h
    have : nm_wstop B to a < to := by simp [nm_point] at h; exact h.1
    omega
  · exact nm_wstop_le h1 h2
theorem nm_fend_le {B : Nat → Int32} {to a m : Nat} (h1 : a ≤ m) (h2 : to ≤ m) : nm_fend B to a ≤ m := by
  unfold nm_fend
  split
  · exact sk_le2 (nm_frac_le h1 h2) h2
  · exact nm_frac_le h1 h2
theorem nm_fstop_le {B : Nat → Int32} {to a m : Nat} (h1 : a ≤ m) (h2 : to ≤ m) : nm_fstop B to a ≤ m := Nat.le_trans (nm_strip_le _) (nm_fend_le h1 h2)
/-- what the fields of a numeral hold, from xb on -/
def nmo (x : Nat → Int32) (xb : Nat) (B : Nat → Int32) (to a : Nat) : Prop := x xb = nm_sign B to a ∧ x (xb + 1) = nI (nm_whole B to a) ∧ x (xb + 2) = nI (nm_wstop B to a) ∧ x (xb + 3) = nI (nm_frac B to a) ∧ x (xb + 4) = nI (nm_fstop B to a)
/-- as it was but for the five fields from xb on -/
def nmf (x x2 : Nat → Int32) (xb : Nat) : Prop := ∀ i, i < xb ∨ xb + 4 < i → x2 i = x i
end
section
/-! Lines in order: by a comparison, and by their numbers where that tells them the same -/
def bf (o : Nat → Nat → Ordering) (a b : Nat) : Bool := match o a b with
  | .lt => true
  | .eq => decide (a < b)
  | .gt => false
theorem bf_irr {o : Nat → Nat → Ordering} (h : gc o) (a : Nat) : bf o a a = false := by
  unfold bf; rw [h.rf a]; simp
theorem bf_lt {o : Nat → Nat → Ordering} {a b : Nat} : bf o a b = true ↔ (o a b).then (on a b) = .lt := by
  unfold bf on
  cases o a b with
  | lt => simp [Ordering.then]
  | gt => simp [Ordering.then]
  | eq =>
    by_cases h : a = b
    · subst h; simp [Ordering.then]
    · by_cases h2 : a < b
      · simp [Ordering.then, h, h2]
      · simp [Ordering.then, h, h2]
theorem bf_tr {o : Nat → Nat → Ordering} (h : gc o) {a b c : Nat} (h1 : bf o a b = true) (h2 : bf o b c = true) : bf o a c = true := by
  rw [bf_lt] at *
  have g := h.thn gc_on
  exact g.ltle (a := a) (b := b) (d := c) h1 (by rw [h2]; decide)
theorem bf_as {o : Nat → Nat → Ordering} (h : gc o) {a b : Nat} (h1 : bf o a b = true) : bf o b a = false := by
  cases h2 : bf o b a with
  | false => rfl
  | true => have := bf_tr h h1 h2; rw [bf_irr h a] at this; cases this
theorem bf_tot {o : Nat → Nat → Ordering} (h : gc o) {a b : Nat} (hne : a ≠ b) (h1 : bf o a b = false) : bf o b a = true := by
  unfold bf at *
  have h2 := h.1 a b
  cases e : o a b with
  | lt => rw [e] at h1; cases h1
  | gt => rw [e] at h2; rw [h2]; rfl
  | eq =>
    rw [e] at h1 h2
    rw [h2]
    simp only [Ordering.swap, decide_eq_true_eq]
    simp only [decide_eq_false_iff_not] at h1
    omega
/-- a row in order is the only one of its things -/
theorem so_uniq {r : Nat → Nat → Prop} (has : ∀ a b, r a b → r b a → False) : ∀ {l1 l2 : List Nat}, l1.Pairwise r → l2.Pairwise r → l1.Perm l2 → l1 = l2 := by
  intro l1
  induction l1 with
  | nil => intro l2 _ _ hp; exact (List.nil_perm.mp hp).symm
  | cons x xs ih =>
    intro l2 h1 h2 hp
    cases l2 with
    | nil => exact absurd hp.length_eq (by simp)
    | cons y ys =>
      have hxy : x = y := by
        by_cases e : x = y
        · exact e
        · exfalso
          have m1 : x ∈ y :: ys := hp.mem_iff.mp List.mem_cons_self
          have m2 : y ∈ x :: xs := hp.mem_iff.mpr List.mem_cons_self
          rcases List.mem_cons.mp m1 with h | h
          · exact e h
          · rcases List.mem_cons.mp m2 with h3 | h3
            · exact e h3.symm
            · exact has x y ((List.pairwise_cons.mp h1).1 y h3) ((List.pairwise_cons.mp h2).1 x h)
      subst hxy
      rw [ih (List.pairwise_cons.mp h1).2 (List.pairwise_cons.mp h2).2 (hp.cons_inv)]
end
section
theorem cf_S : xx_cf 0 cn_S fd_S 10 tf_S := by
  refine ⟨rfl, fun w hw => ?_, by decide +kernel, by decide +kernel⟩
  obtain ⟨k, hk, rfl⟩ := List.mem_map.mp hw
  have hk := List.mem_range.mp hk
  match k, hk with
  | 0, _ => exact xw_in mw_238 rfl
  | 1, _ => exact xw_in mw_240 rfl
  | 2, _ => exact xw_in mw_242 rfl
  | 3, _ => exact xw_in mw_244 rfl
  | 4, _ => exact xw_in mw_246 rfl
  | 5, _ => exact xw_in mw_248 rfl
  | 6, _ => exact xw_in mw_250 rfl
  | 7, _ => exact xw_in mw_252 rfl
  | 8, _ => exact xw_in mw_254 rfl
  | 9, _ => exact xw_in mw_256 rfl
theorem cf_T : xx_cf 1 cn_T fd_T 4 tf_T := by
  refine ⟨rfl, fun w hw => ?_, by decide +kernel, by decide +kernel⟩
  obtain ⟨k, hk, rfl⟩ := List.mem_map.mp hw
  have hk := List.mem_range.mp hk
  match k, hk with
  | 0, _ => exact xw_in mw_42 rfl
  | 1, _ => exact xw_in mw_44 rfl
  | 2, _ => exact xw_in mw_46 rfl
  | 3, _ => exact xw_in mw_48 rfl
theorem cf_P : xx_cf 2 cn_P fd_P 2 tf_P := by
  refine ⟨rfl, fun w hw => ?_, by decide +kernel, by decide +kernel⟩
  obtain ⟨k, hk, rfl⟩ := List.mem_map.mp hw
  have hk := List.mem_range.mp hk
  match k, hk with
  | 0, _ => exact xw_in mw_62 rfl
  | 1, _ => exact xw_in mw_64 rfl
theorem cf_O : xx_cf 3 cn_O fd_O 10 tf_O := by
  refine ⟨rfl, fun w hw => ?_, by decide +kernel, by decide +kernel⟩
  obtain ⟨k, hk, rfl⟩ := List.mem_map.mp hw
  have hk := List.mem_range.mp hk
  match k, hk with
  | 0, _ => exact xw_in mw_142 rfl
  | 1, _ => exact xw_in mw_144 rfl
  | 2, _ => exact xw_in mw_146 rfl
  | 3, _ => exact xw_in mw_148 rfl
  | 4, _ => exact xw_in mw_150 rfl
  | 5, _ => exact xw_in mw_152 rfl
  | 6, _ => exact xw_in mw_154 rfl
  | 7, _ => exact xw_in mw_156 rfl
  | 8, _ => exact xw_in mw_158 rfl
  | 9, _ => exact xw_in mw_160 rfl
theorem cf_K : xx_cf 4 cn_K fd_K 5 tf_K := by
  refine ⟨rfl, fun w hw => ?_, by decide +kernel, by decide +kernel⟩
  obtain ⟨k, hk, rfl⟩ := List.mem_map.mp hw
  have hk := List.mem_range.mp hk
  match k, hk with
  | 0, _ => exact xw_in mw_89 rfl
  | 1, _ => exact xw_in mw_91 rfl
  | 2, _ => exact xw_in mw_93 rfl
  | 3, _ => exact xw_in mw_95 rfl
  | 4, _ => exact xw_in mw_97 rfl
theorem cf_N : xx_cf 5 cn_N fd_N 5 tf_N := by
  refine ⟨rfl, fun w hw => ?_, by decide +kernel, by decide +kernel⟩
  obtain ⟨k, hk, rfl⟩ := List.mem_map.mp hw
  have hk := List.mem_range.mp hk
  match k, hk with
  | 0, _ => exact xw_in mw_117 rfl
  | 1, _ => exact xw_in mw_119 rfl
  | 2, _ => exact xw_in mw_121 rfl
  | 3, _ => exact xw_in mw_123 rfl
  | 4, _ => exact xw_in mw_125 rfl
theorem cf_R : xx_cf 6 cn_R fd_R 3 tf_R := by
  refine ⟨rfl, fun w hw => ?_, by decide +kernel, by decide +kernel⟩
  obtain ⟨k, hk, rfl⟩ := List.mem_map.mp hw
  have hk := List.mem_range.mp hk
  match k, hk with
  | 0, _ => exact xw_in mw_172 rfl
  | 1, _ => exact xw_in mw_174 rfl
  | 2, _ => exact xw_in mw_176 rfl
theorem cf_H : xx_cf 7 cn_H fd_H 2 tf_H := by
  refine ⟨rfl, fun w hw => ?_, by decide +kernel, by decide +kernel⟩
  obtain ⟨k, hk, rfl⟩ := List.mem_map.mp hw
  have hk := List.mem_range.mp hk
  match k, hk with
  | 0, _ => exact xw_in mw_187 rfl
  | 1, _ => exact xw_in mw_189 rfl
theorem cf_U : xx_cf 8 cn_U fd_U 8 tf_U := by
  refine ⟨rfl, fun w hw => ?_, by decide +kernel, by decide +kernel⟩
  obtain ⟨k, hk, rfl⟩ := List.mem_map.mp hw
  have hk := List.mem_range.mp hk
  match k, hk with
  | 0, _ => exact xw_in mw_211 rfl
  | 1, _ => exact xw_in mw_213 rfl
  | 2, _ => exact xw_in mw_215 rfl
  | 3, _ => exact xw_in mw_217 rfl
  | 4, _ => exact xw_in mw_219 rfl
  | 5, _ => exact xw_in mw_221 rfl
  | 6, _ => exact xw_in mw_223 rfl
  | 7, _ => exact xw_in mw_225 rfl
theorem cf_M : xx_cf 9 cn_M fd_M 32 tf_M := by
  refine ⟨rfl, fun w hw => ?_, by decide +kernel, by decide +kernel⟩
  obtain ⟨k, hk, rfl⟩ := List.mem_map.mp hw
  have hk := List.mem_range.mp hk
  match k, hk with
  | 0, _ => exact xw_in mw_732 rfl
  | 1, _ => exact xw_in mw_734 rfl
  | 2, _ => exact xw_in mw_736 rfl
  | 3, _ => exact xw_in mw_738 rfl
  | 4, _ => exact xw_in mw_740 rfl
  | 5, _ => exact xw_in mw_742 rfl
  | 6, _ => exact xw_in mw_744 rfl
  | 7, _ => exact xw_in mw_746 rfl
  | 8, _ => exact xw_in mw_748 rfl
  | 9, _ => exact xw_in mw_750 rfl
  | 10, _ => exact xw_in mw_752 rfl
  | 11, _ => exact xw_in mw_754 rfl
  | 12, _ => exact xw_in mw_756 rfl
  | 13, _ => exact xw_in mw_758 rfl
  | 14, _ => exact xw_in mw_760 rfl
  | 15, _ => exact xw_in mw_762 rfl
  | 16, _ => exact xw_in mw_764 rfl
  | 17, _ => exact xw_in mw_766 rfl
  | 18, _ => exact xw_in mw_768 rfl
  | 19, _ => exact xw_in mw_770 rfl
  | 20, _ => exact xw_in mw_772 rfl
  | 21, _ => exact xw_in mw_774 rfl
  | 22, _ => exact xw_in mw_776 rfl
  | 23, _ => exact xw_in mw_778 rfl
  | 24, _ => exact xw_in mw_780 rfl
  | 25, _ => exact xw_in mw_782 rfl
  | 26, _ => exact xw_in mw_784 rfl
  | 27, _ => exact xw_in mw_786 rfl
  | 28, _ => exact xw_in mw_788 rfl
  | 29, _ => exact xw_in mw_790 rfl
  | 30, _ => exact xw_in mw_792 rfl
  | 31, _ => exact xw_in mw_794 rfl
  | k + 32, h => exact absurd h (by omega)
theorem ml_S_1 : Cond.methodLink "LineSorter" 1 ⟨"java/lang/Object", "<init>", "()V"⟩ ∈ xw_g := xw_in mw_27 rfl
theorem nw_S_7 : xx_nw cn_S 7 1 [.null, .int 0, .null, .int 0] 4 := ⟨_, _, _, cf_T, xw_in mw_30 rfl, xw_in mw_31 rfl, xw_in mw_2 rfl, by decide⟩
theorem ml_S_9 : Cond.methodLink cn_S 9 y_T_init ∈ xw_g ∨ ∃ host : String, Cond.methodLinkNest cn_S 9 y_T_init host ∈ xw_n := Or.inl (xw_in mw_32 rfl)
theorem ff_S_10 : xx_ff cn_S 10 0 0 (.object "LineSorter$Text") := ⟨_, _, _, _, cf_S, by decide, rfl, rfl, by decide +kernel, xw_in mw_228 rfl⟩
theorem nw_S_16 : xx_nw cn_S 16 2 [.null, .int 0] 2 := ⟨_, _, _, cf_P, xw_in mw_53 rfl, xw_in mw_54 rfl, xw_in mw_3 rfl, by decide⟩
theorem fl_S_10 : xx_fl cn_S 10 0 0 := ⟨_, _, _, _, cf_S, by decide, Or.inl (xw_in mw_228 rfl)⟩
theorem ml_S_18 : Cond.methodLink cn_S 18 y_P_init ∈ xw_g ∨ ∃ host : String, Cond.methodLinkNest cn_S 18 y_P_init host ∈ xw_n := Or.inl (xw_in mw_55 rfl)
theorem ff_S_21 : xx_ff cn_S 21 0 1 (.object "LineSorter$Places") := ⟨_, _, _, _, cf_S, by decide, rfl, rfl, by decide +kernel, xw_in mw_229 rfl⟩
theorem nw_S_25 : xx_nw cn_S 25 3 [.null, .null, .null, .null, .null, .null, .int 0, .int 0, .int 0, .int 0] 10 := ⟨_, _, _, cf_O, xw_in mw_67 rfl, xw_in mw_68 rfl, xw_in mw_4 rfl, by decide⟩
theorem fl_S_21 : xx_fl cn_S 21 0 1 := ⟨_, _, _, _, cf_S, by decide, Or.inl (xw_in mw_229 rfl)⟩
theorem ml_S_27 : Cond.methodLink cn_S 27 y_O_init ∈ xw_g ∨ ∃ host : String, Cond.methodLinkNest cn_S 27 y_O_init host ∈ xw_n := Or.inl (xw_in mw_69 rfl)
theorem ff_S_30 : xx_ff cn_S 30 0 2 (.object "LineSorter$Order") := ⟨_, _, _, _, cf_S, by decide, rfl, rfl, by decide +kernel, xw_in mw_230 rfl⟩
theorem nw_S_34 : xx_nw cn_S 34 6 [.null, .null, .null] 3 := ⟨_, _, _, cf_R, xw_in mw_163 rfl, xw_in mw_164 rfl, xw_in mw_7 rfl, by decide⟩
theorem fl_S_30 : xx_fl cn_S 30 0 2 := ⟨_, _, _, _, cf_S, by decide, Or.inl (xw_in mw_230 rfl)⟩
theorem ml_S_36 : Cond.methodLink cn_S 36 y_R_init ∈ xw_g ∨ ∃ host : String, Cond.methodLinkNest cn_S 36 y_R_init host ∈ xw_n := Or.inl (xw_in mw_165 rfl)
theorem ff_S_39 : xx_ff cn_S 39 0 3 (.object "LineSorter$Ranking") := ⟨_, _, _, _, cf_S, by decide, rfl, rfl, by decide +kernel, xw_in mw_231 rfl⟩
theorem nw_S_43 : xx_nw cn_S 43 7 [.null, .int 0] 2 := ⟨_, _, _, cf_H, xw_in mw_179 rfl, xw_in mw_180 rfl, xw_in mw_8 rfl, by decide⟩
theorem ml_S_45 : Cond.methodLink cn_S 45 y_H_init ∈ xw_g ∨ ∃ host : String, Cond.methodLinkNest cn_S 45 y_H_init host ∈ xw_n := Or.inl (xw_in mw_181 rfl)
theorem ff_S_46 : xx_ff cn_S 46 0 4 (.object "LineSorter$Heap") := ⟨_, _, _, _, cf_S, by decide, rfl, rfl, by decide +kernel, xw_in mw_232 rfl⟩
theorem nw_S_50 : xx_nw cn_S 50 8 [.null, .null, .null, .null, .int 0, .int 0, .int 0, .int 0] 8 := ⟨_, _, _, cf_U, xw_in mw_192 rfl, xw_in mw_193 rfl, xw_in mw_9 rfl, by decide⟩
theorem fl_S_39 : xx_fl cn_S 39 0 3 := ⟨_, _, _, _, cf_S, by decide, Or.inl (xw_in mw_231 rfl)⟩
theorem fl_S_46 : xx_fl cn_S 46 0 4 := ⟨_, _, _, _, cf_S, by decide, Or.inl (xw_in mw_232 rfl)⟩
theorem ml_S_52 : Cond.methodLink cn_S 52 y_U_init ∈ xw_g ∨ ∃ host : String, Cond.methodLinkNest cn_S 52 y_U_init host ∈ xw_n := Or.inl (xw_in mw_194 rfl)
theorem ff_S_55 : xx_ff cn_S 55 0 5 (.object "LineSorter$Runs") := ⟨_, _, _, _, cf_S, by decide, rfl, rfl, by decide +kernel, xw_in mw_233 rfl⟩
theorem ff_S_59 : xx_ff cn_S 59 0 6 (.array .int) := ⟨_, _, _, _, cf_S, by decide, rfl, rfl, by decide +kernel, xw_in mw_234 rfl⟩
theorem fp_S_63 : xx_fp cn_S 63 0 7 .int := ⟨_, _, _, _, cf_S, by decide, rfl, by decide +kernel, Or.inl (xw_in mw_235 rfl)⟩
theorem fp_S_67 : xx_fp cn_S 67 0 8 .int := ⟨_, _, _, _, cf_S, by decide, rfl, by decide +kernel, Or.inl (xw_in mw_236 rfl)⟩
theorem fp_S_70 : xx_fp cn_S 70 0 9 .int := ⟨_, _, _, _, cf_S, by decide, rfl, by decide +kernel, Or.inl (xw_in mw_237 rfl)⟩
theorem fl_S_73 : xx_fl cn_S 73 1 1 := ⟨_, _, _, _, cf_T, by decide, Or.inr ⟨_, xw_inN mw_39 rfl⟩⟩
theorem ml_S_80 : Cond.methodLink "LineSorter" 80 ⟨"java/lang/IllegalStateException", "<init>", "(Ljava/lang/String;)V"⟩ ∈ xw_g := xw_in mw_438 rfl
theorem ml_S_83 : Cond.methodLink cn_S 83 y_T_append ∈ xw_g ∨ ∃ host : String, Cond.methodLinkNest cn_S 83 y_T_append host ∈ xw_n := Or.inl (xw_in mw_463 rfl)
theorem ml_S_87 : Cond.methodLink "LineSorter" 87 y_S_isWithin ∈ xw_g := xw_in mw_373 rfl
theorem ml_S_95 : Cond.methodLink "LineSorter" 95 ⟨"java/lang/IllegalArgumentException", "<init>", "(Ljava/lang/String;)V"⟩ ∈ xw_g := xw_in mw_511 rfl
theorem ml_S_96 : Cond.methodLink cn_S 96 y_T_keepFirst ∈ xw_g ∨ ∃ host : String, Cond.methodLinkNest cn_S 96 y_T_keepFirst host ∈ xw_n := Or.inl (xw_in mw_517 rfl)
theorem fp_S_101 : xx_fp cn_S 101 3 7 .int := ⟨_, _, _, _, cf_O, by decide, rfl, by decide +kernel, Or.inr ⟨_, xw_inN mw_137 rfl⟩⟩
theorem fp_S_104 : xx_fp cn_S 104 3 8 .boolean := ⟨_, _, _, _, cf_O, by decide, rfl, by decide +kernel, Or.inr ⟨_, xw_inN mw_139 rfl⟩⟩
theorem fp_S_108 : xx_fp cn_S 108 3 9 .boolean := ⟨_, _, _, _, cf_O, by decide, rfl, by decide +kernel, Or.inr ⟨_, xw_inN mw_141 rfl⟩⟩
theorem fp_S_113 : xx_fp cn_S 113 2 1 .int := ⟨_, _, _, _, cf_P, by decide, rfl, by decide +kernel, Or.inr ⟨_, xw_inN mw_61 rfl⟩⟩
theorem fl_S_118 : xx_fl cn_S 118 3 6 := ⟨_, _, _, _, cf_O, by decide, Or.inr ⟨_, xw_inN mw_135 rfl⟩⟩
theorem ml_S_125 : Cond.methodLink "LineSorter" 125 ⟨"java/lang/UnsupportedOperationException", "<init>", "(Ljava/lang/String;)V"⟩ ∈ xw_g := xw_in mw_556 rfl
theorem nw_S_126 : xx_nw cn_S 126 4 [.int 0, .int 0, .int 0, .int 0, .int 0] 5 := ⟨_, _, _, cf_K, xw_in mw_562 rfl, xw_in mw_74 rfl, xw_in mw_5 rfl, by decide⟩
theorem ml_S_128 : Cond.methodLink cn_S 128 y_K_init ∈ xw_g ∨ ∃ host : String, Cond.methodLinkNest cn_S 128 y_K_init host ∈ xw_n := Or.inl (xw_in mw_563 rfl)
theorem ml_S_131 : Cond.methodLink cn_S 131 y_O_addKey ∈ xw_g ∨ ∃ host : String, Cond.methodLinkNest cn_S 131 y_O_addKey host ∈ xw_n := Or.inl (xw_in mw_564 rfl)
theorem fp_S_118 : xx_fp cn_S 118 3 6 .int := ⟨_, _, _, _, cf_O, by decide, rfl, by decide +kernel, Or.inr ⟨_, xw_inN mw_135 rfl⟩⟩
theorem ml_S_137 : Cond.methodLink cn_S 137 y_T_lineCount ∈ xw_g ∨ ∃ host : String, Cond.methodLinkNest cn_S 137 y_T_lineCount host ∈ xw_n := Or.inl (xw_in mw_267 rfl)
theorem ml_S_141 : Cond.methodLink cn_S 141 y_S_isLine ∈ xw_g ∨ ∃ host : String, Cond.methodLinkNest cn_S 141 y_S_isLine host ∈ xw_n := Or.inl (xw_in mw_584 rfl)
theorem ml_S_145 : Cond.methodLink cn_S 145 y_O_keysInUse ∈ xw_g ∨ ∃ host : String, Cond.methodLinkNest cn_S 145 y_O_keysInUse host ∈ xw_n := Or.inl (xw_in mw_588 rfl)
theorem ml_S_152 : Cond.methodLink "LineSorter" 152 ⟨"java/lang/IndexOutOfBoundsException", "<init>", "(Ljava/lang/String;)V"⟩ ∈ xw_g := xw_in mw_599 rfl
theorem ml_S_153 : Cond.methodLink cn_S 153 y_O_keyInUse ∈ xw_g ∨ ∃ host : String, Cond.methodLinkNest cn_S 153 y_O_keyInUse host ∈ xw_n := Or.inl (xw_in mw_605 rfl)
theorem ml_S_157 : Cond.methodLink cn_S 157 y_O_flagsOf ∈ xw_g ∨ ∃ host : String, Cond.methodLinkNest cn_S 157 y_O_flagsOf host ∈ xw_n := Or.inl (xw_in mw_606 rfl)
theorem ml_S_161 : Cond.methodLink cn_S 161 y_P_endOf ∈ xw_g ∨ ∃ host : String, Cond.methodLinkNest cn_S 161 y_P_endOf host ∈ xw_n := Or.inl (xw_in mw_607 rfl)
theorem ml_S_165 : Cond.methodLink cn_S 165 y_P_beginOf ∈ xw_g ∨ ∃ host : String, Cond.methodLinkNest cn_S 165 y_P_beginOf host ∈ xw_n := Or.inl (xw_in mw_608 rfl)
theorem ml_S_168 : Cond.methodLink cn_S 168 y_T_startOf ∈ xw_g ∨ ∃ host : String, Cond.methodLinkNest cn_S 168 y_T_startOf host ∈ xw_n := Or.inl (xw_in mw_380 rfl)
theorem ml_S_174 : Cond.methodLink cn_S 174 y_O_comparedByKeys ∈ xw_g ∨ ∃ host : String, Cond.methodLinkNest cn_S 174 y_O_comparedByKeys host ∈ xw_n := Or.inl (xw_in mw_617 rfl)
theorem ml_S_180 : Cond.methodLink cn_S 180 y_R_rankFirst ∈ xw_g ∨ ∃ host : String, Cond.methodLinkNest cn_S 180 y_R_rankFirst host ∈ xw_n := Or.inl (xw_in mw_626 rfl)
theorem fl_S_55 : xx_fl cn_S 55 0 5 := ⟨_, _, _, _, cf_S, by decide, Or.inl (xw_in mw_233 rfl)⟩
theorem fl_S_67 : xx_fl cn_S 67 0 8 := ⟨_, _, _, _, cf_S, by decide, Or.inl (xw_in mw_236 rfl)⟩
theorem ml_S_183 : Cond.methodLink cn_S 183 y_U_makeRuns ∈ xw_g ∨ ∃ host : String, Cond.methodLinkNest cn_S 183 y_U_makeRuns host ∈ xw_n := Or.inl (xw_in mw_632 rfl)
theorem fl_S_70 : xx_fl cn_S 70 0 9 := ⟨_, _, _, _, cf_S, by decide, Or.inl (xw_in mw_237 rfl)⟩
theorem ml_S_187 : Cond.methodLink cn_S 187 y_U_countMerges ∈ xw_g ∨ ∃ host : String, Cond.methodLinkNest cn_S 187 y_U_countMerges host ∈ xw_n := Or.inl (xw_in mw_661 rfl)
theorem ml_S_190 : Cond.methodLink cn_S 190 y_R_lineAt ∈ xw_g ∨ ∃ host : String, Cond.methodLinkNest cn_S 190 y_R_lineAt host ∈ xw_n := Or.inl (xw_in mw_666 rfl)
theorem ml_S_193 : Cond.methodLink cn_S 193 y_S_addToResult ∈ xw_g ∨ ∃ host : String, Cond.methodLinkNest cn_S 193 y_S_addToResult host ∈ xw_n := Or.inl (xw_in mw_670 rfl)
theorem fl_S_63 : xx_fl cn_S 63 0 7 := ⟨_, _, _, _, cf_S, by decide, Or.inl (xw_in mw_235 rfl)⟩
theorem fp_S_196 : xx_fp cn_S 196 8 7 .int := ⟨_, _, _, _, cf_U, by decide, rfl, by decide +kernel, Or.inr ⟨_, xw_inN mw_210 rfl⟩⟩
theorem ml_S_199 : Cond.methodLink cn_S 199 y_O_comparedNumbersAside ∈ xw_g ∨ ∃ host : String, Cond.methodLinkNest cn_S 199 y_O_comparedNumbersAside host ∈ xw_n := Or.inl (xw_in mw_279 rfl)
theorem fl_S_108 : xx_fl cn_S 108 3 9 := ⟨_, _, _, _, cf_O, by decide, Or.inr ⟨_, xw_inN mw_141 rfl⟩⟩
theorem ml_S_204 : Cond.methodLink cn_S 204 y_H_clear ∈ xw_g ∨ ∃ host : String, Cond.methodLinkNest cn_S 204 y_H_clear host ∈ xw_n := Or.inl (xw_in mw_682 rfl)
theorem ml_S_207 : Cond.methodLink cn_S 207 y_R_rankOf ∈ xw_g ∨ ∃ host : String, Cond.methodLinkNest cn_S 207 y_R_rankOf host ∈ xw_n := Or.inl (xw_in mw_683 rfl)
theorem ml_S_210 : Cond.methodLink cn_S 210 y_H_put ∈ xw_g ∨ ∃ host : String, Cond.methodLinkNest cn_S 210 y_H_put host ∈ xw_n := Or.inl (xw_in mw_684 rfl)
theorem ml_S_213 : Cond.methodLink cn_S 213 y_H_takeLeast ∈ xw_g ∨ ∃ host : String, Cond.methodLinkNest cn_S 213 y_H_takeLeast host ∈ xw_n := Or.inl (xw_in mw_685 rfl)
theorem fl_S_59 : xx_fl cn_S 59 0 6 := ⟨_, _, _, _, cf_S, by decide, Or.inl (xw_in mw_234 rfl)⟩
theorem ml_S_216 : Cond.methodLink cn_S 216 y_T_stopOf ∈ xw_g ∨ ∃ host : String, Cond.methodLinkNest cn_S 216 y_T_stopOf host ∈ xw_n := Or.inl (xw_in mw_381 rfl)
theorem ml_S_219 : Cond.methodLink cn_S 219 y_T_at ∈ xw_g ∨ ∃ host : String, Cond.methodLinkNest cn_S 219 y_T_at host ∈ xw_n := Or.inl (xw_in mw_382 rfl)
theorem fl_S_222 : xx_fl cn_S 222 8 4 := ⟨_, _, _, _, cf_U, by decide, Or.inr ⟨_, xw_inN mw_204 rfl⟩⟩
theorem fl_S_225 : xx_fl cn_S 225 8 2 := ⟨_, _, _, _, cf_U, by decide, Or.inr ⟨_, xw_inN mw_201 rfl⟩⟩
theorem fl_S_228 : xx_fl cn_S 228 8 5 := ⟨_, _, _, _, cf_U, by decide, Or.inr ⟨_, xw_inN mw_206 rfl⟩⟩
theorem fl_S_231 : xx_fl cn_S 231 8 6 := ⟨_, _, _, _, cf_U, by decide, Or.inr ⟨_, xw_inN mw_208 rfl⟩⟩
theorem fl_S_196 : xx_fl cn_S 196 8 7 := ⟨_, _, _, _, cf_U, by decide, Or.inr ⟨_, xw_inN mw_210 rfl⟩⟩
theorem ml_M_1 : Cond.methodLink "LineSorterModel" 1 ⟨"java/lang/Object", "<init>", "()V"⟩ ∈ xw_g := xw_in mw_699 rfl
theorem ff_M_7 : xx_ff cn_M 7 9 0 (.array .byte) := ⟨_, _, _, _, cf_M, by decide, rfl, rfl, by decide +kernel, xw_in mw_700 rfl⟩
theorem ff_M_13 : xx_ff cn_M 13 9 2 (.array .int) := ⟨_, _, _, _, cf_M, by decide, rfl, rfl, by decide +kernel, xw_in mw_702 rfl⟩
theorem fp_M_17 : xx_fp cn_M 17 9 8 .int := ⟨_, _, _, _, cf_M, by decide, rfl, by decide +kernel, Or.inl (xw_in mw_708 rfl)⟩
theorem ff_M_21 : xx_ff cn_M 21 9 9 (.array .int) := ⟨_, _, _, _, cf_M, by decide, rfl, rfl, by decide +kernel, xw_in mw_709 rfl⟩
theorem fp_M_24 : xx_fp cn_M 24 9 11 .int := ⟨_, _, _, _, cf_M, by decide, rfl, by decide +kernel, Or.inl (xw_in mw_711 rfl)⟩
theorem fp_M_27 : xx_fp cn_M 27 9 12 .int := ⟨_, _, _, _, cf_M, by decide, rfl, by decide +kernel, Or.inl (xw_in mw_712 rfl)⟩
theorem ff_M_30 : xx_ff cn_M 30 9 13 (.array .int) := ⟨_, _, _, _, cf_M, by decide, rfl, rfl, by decide +kernel, xw_in mw_713 rfl⟩
theorem ff_M_33 : xx_ff cn_M 33 9 14 (.array .int) := ⟨_, _, _, _, cf_M, by decide, rfl, rfl, by decide +kernel, xw_in mw_714 rfl⟩
theorem ff_M_36 : xx_ff cn_M 36 9 16 (.array .int) := ⟨_, _, _, _, cf_M, by decide, rfl, rfl, by decide +kernel, xw_in mw_716 rfl⟩
theorem ff_M_39 : xx_ff cn_M 39 9 18 (.array .int) := ⟨_, _, _, _, cf_M, by decide, rfl, rfl, by decide +kernel, xw_in mw_718 rfl⟩
theorem ff_M_42 : xx_ff cn_M 42 9 19 (.array .int) := ⟨_, _, _, _, cf_M, by decide, rfl, rfl, by decide +kernel, xw_in mw_719 rfl⟩
theorem ff_M_45 : xx_ff cn_M 45 9 20 (.array .int) := ⟨_, _, _, _, cf_M, by decide, rfl, rfl, by decide +kernel, xw_in mw_720 rfl⟩
theorem ff_M_48 : xx_ff cn_M 48 9 22 (.array .int) := ⟨_, _, _, _, cf_M, by decide, rfl, rfl, by decide +kernel, xw_in mw_722 rfl⟩
theorem ff_M_51 : xx_ff cn_M 51 9 27 (.array .int) := ⟨_, _, _, _, cf_M, by decide, rfl, rfl, by decide +kernel, xw_in mw_727 rfl⟩
theorem ff_M_54 : xx_ff cn_M 54 9 31 (.array .int) := ⟨_, _, _, _, cf_M, by decide, rfl, rfl, by decide +kernel, xw_in mw_731 rfl⟩
theorem fl_M_57 : xx_fl cn_M 57 9 30 := ⟨_, _, _, _, cf_M, by decide, Or.inl (xw_in mw_730 rfl)⟩
theorem fp_M_57 : xx_fp cn_M 57 9 30 .int := ⟨_, _, _, _, cf_M, by decide, rfl, by decide +kernel, Or.inl (xw_in mw_730 rfl)⟩
theorem fp_M_60 : xx_fp cn_M 60 9 1 .int := ⟨_, _, _, _, cf_M, by decide, rfl, by decide +kernel, Or.inl (xw_in mw_701 rfl)⟩
theorem fp_M_63 : xx_fp cn_M 63 9 4 .boolean := ⟨_, _, _, _, cf_M, by decide, rfl, by decide +kernel, Or.inl (xw_in mw_704 rfl)⟩
theorem fp_M_67 : xx_fp cn_M 67 9 17 .int := ⟨_, _, _, _, cf_M, by decide, rfl, by decide +kernel, Or.inl (xw_in mw_717 rfl)⟩
theorem fl_M_60 : xx_fl cn_M 60 9 1 := ⟨_, _, _, _, cf_M, by decide, Or.inl (xw_in mw_701 rfl)⟩
theorem ml_M_70 : Cond.methodLink cn_M 70 y_M_fails ∈ xw_g ∨ ∃ host : String, Cond.methodLinkNest cn_M 70 y_M_fails host ∈ xw_n := Or.inl (xw_in mw_805 rfl)
theorem fl_M_7 : xx_fl cn_M 7 9 0 := ⟨_, _, _, _, cf_M, by decide, Or.inl (xw_in mw_700 rfl)⟩
theorem ml_M_74 : Cond.methodLink cn_M 74 y_M_change ∈ xw_g ∨ ∃ host : String, Cond.methodLinkNest cn_M 74 y_M_change host ∈ xw_n := Or.inl (xw_in mw_809 rfl)
theorem fl_M_63 : xx_fl cn_M 63 9 4 := ⟨_, _, _, _, cf_M, by decide, Or.inl (xw_in mw_704 rfl)⟩
theorem fp_M_78 : xx_fp cn_M 78 9 3 .int := ⟨_, _, _, _, cf_M, by decide, rfl, by decide +kernel, Or.inl (xw_in mw_703 rfl)⟩
theorem fl_M_13 : xx_fl cn_M 13 9 2 := ⟨_, _, _, _, cf_M, by decide, Or.inl (xw_in mw_702 rfl)⟩
theorem fl_M_78 : xx_fl cn_M 78 9 3 := ⟨_, _, _, _, cf_M, by decide, Or.inl (xw_in mw_703 rfl)⟩
theorem ml_M_81 : Cond.methodLink "LineSorterModel" 81 y_M_within ∈ xw_g := xw_in mw_821 rfl
theorem fp_M_85 : xx_fp cn_M 85 9 5 .int := ⟨_, _, _, _, cf_M, by decide, rfl, by decide +kernel, Or.inl (xw_in mw_705 rfl)⟩
theorem fp_M_88 : xx_fp cn_M 88 9 6 .boolean := ⟨_, _, _, _, cf_M, by decide, rfl, by decide +kernel, Or.inl (xw_in mw_706 rfl)⟩
theorem fp_M_91 : xx_fp cn_M 91 9 7 .boolean := ⟨_, _, _, _, cf_M, by decide, rfl, by decide +kernel, Or.inl (xw_in mw_707 rfl)⟩
theorem fl_M_94 : xx_fl cn_M 94 9 10 := ⟨_, _, _, _, cf_M, by decide, Or.inl (xw_in mw_710 rfl)⟩
theorem fl_M_21 : xx_fl cn_M 21 9 9 := ⟨_, _, _, _, cf_M, by decide, Or.inl (xw_in mw_709 rfl)⟩
theorem fp_M_94 : xx_fp cn_M 94 9 10 .int := ⟨_, _, _, _, cf_M, by decide, rfl, by decide +kernel, Or.inl (xw_in mw_710 rfl)⟩
theorem fl_M_85 : xx_fl cn_M 85 9 5 := ⟨_, _, _, _, cf_M, by decide, Or.inl (xw_in mw_705 rfl)⟩
theorem ml_M_97 : Cond.methodLink cn_M 97 y_M_endOf ∈ xw_g ∨ ∃ host : String, Cond.methodLinkNest cn_M 97 y_M_endOf host ∈ xw_n := Or.inl (xw_in mw_860 rfl)
theorem ml_M_101 : Cond.methodLink cn_M 101 y_M_startOf ∈ xw_g ∨ ∃ host : String, Cond.methodLinkNest cn_M 101 y_M_startOf host ∈ xw_n := Or.inl (xw_in mw_872 rfl)
theorem fl_M_17 : xx_fl cn_M 17 9 8 := ⟨_, _, _, _, cf_M, by decide, Or.inl (xw_in mw_708 rfl)⟩
theorem fp_M_104 : xx_fp cn_M 104 9 28 .int := ⟨_, _, _, _, cf_M, by decide, rfl, by decide +kernel, Or.inl (xw_in mw_728 rfl)⟩
theorem fp_M_107 : xx_fp cn_M 107 9 29 .int := ⟨_, _, _, _, cf_M, by decide, rfl, by decide +kernel, Or.inl (xw_in mw_729 rfl)⟩
theorem ml_M_110 : Cond.methodLink cn_M 110 y_M_isBlank ∈ xw_g ∨ ∃ host : String, Cond.methodLinkNest cn_M 110 y_M_isBlank host ∈ xw_n := Or.inl (xw_in mw_876 rfl)
theorem fl_M_107 : xx_fl cn_M 107 9 29 := ⟨_, _, _, _, cf_M, by decide, Or.inl (xw_in mw_729 rfl)⟩
theorem fl_M_104 : xx_fl cn_M 104 9 28 := ⟨_, _, _, _, cf_M, by decide, Or.inl (xw_in mw_728 rfl)⟩
theorem ml_M_114 : Cond.methodLink cn_M 114 y_M_keyOf ∈ xw_g ∨ ∃ host : String, Cond.methodLinkNest cn_M 114 y_M_keyOf host ∈ xw_n := Or.inl (xw_in mw_864 rfl)
theorem ml_M_118 : Cond.methodLink cn_M 118 y_M_find ∈ xw_g ∨ ∃ host : String, Cond.methodLinkNest cn_M 118 y_M_find host ∈ xw_n := Or.inl (xw_in mw_868 rfl)
theorem ml_M_122 : Cond.methodLink cn_M 122 y_M_begin ∈ xw_g ∨ ∃ host : String, Cond.methodLinkNest cn_M 122 y_M_begin host ∈ xw_n := Or.inl (xw_in mw_880 rfl)
theorem fl_M_126 : xx_fl cn_M 126 9 15 := ⟨_, _, _, _, cf_M, by decide, Or.inl (xw_in mw_715 rfl)⟩
theorem fl_M_30 : xx_fl cn_M 30 9 13 := ⟨_, _, _, _, cf_M, by decide, Or.inl (xw_in mw_713 rfl)⟩
theorem ml_M_129 : Cond.methodLink cn_M 129 y_M_keyBegin ∈ xw_g ∨ ∃ host : String, Cond.methodLinkNest cn_M 129 y_M_keyBegin host ∈ xw_n := Or.inl (xw_in mw_884 rfl)
theorem fl_M_33 : xx_fl cn_M 33 9 14 := ⟨_, _, _, _, cf_M, by decide, Or.inl (xw_in mw_714 rfl)⟩
theorem ml_M_132 : Cond.methodLink cn_M 132 y_M_keyEnd ∈ xw_g ∨ ∃ host : String, Cond.methodLinkNest cn_M 132 y_M_keyEnd host ∈ xw_n := Or.inl (xw_in mw_856 rfl)
theorem ml_M_135 : Cond.methodLink cn_M 135 y_M_counts ∈ xw_g ∨ ∃ host : String, Cond.methodLinkNest cn_M 135 y_M_counts host ∈ xw_n := Or.inl (xw_in mw_948 rfl)
theorem ml_M_138 : Cond.methodLink cn_M 138 y_M_folded ∈ xw_g ∨ ∃ host : String, Cond.methodLinkNest cn_M 138 y_M_folded host ∈ xw_n := Or.inl (xw_in mw_952 rfl)
theorem ml_M_141 : Cond.methodLink cn_M 141 y_M_behindBlanks ∈ xw_g ∨ ∃ host : String, Cond.methodLinkNest cn_M 141 y_M_behindBlanks host ∈ xw_n := Or.inl (xw_in mw_916 rfl)
theorem ml_M_144 : Cond.methodLink cn_M 144 y_M_isMinus ∈ xw_g ∨ ∃ host : String, Cond.methodLinkNest cn_M 144 y_M_isMinus host ∈ xw_n := Or.inl (xw_in mw_920 rfl)
theorem ml_M_147 : Cond.methodLink cn_M 147 y_M_isDigit ∈ xw_g ∨ ∃ host : String, Cond.methodLinkNest cn_M 147 y_M_isDigit host ∈ xw_n := Or.inl (xw_in mw_928 rfl)
theorem ml_M_150 : Cond.methodLink cn_M 150 y_M_behindDigits ∈ xw_g ∨ ∃ host : String, Cond.methodLinkNest cn_M 150 y_M_behindDigits host ∈ xw_n := Or.inl (xw_in mw_936 rfl)
theorem ml_M_153 : Cond.methodLink cn_M 153 y_M_partAt ∈ xw_g ∨ ∃ host : String, Cond.methodLinkNest cn_M 153 y_M_partAt host ∈ xw_n := Or.inl (xw_in mw_932 rfl)
theorem ml_M_156 : Cond.methodLink cn_M 156 y_M_wholeAt ∈ xw_g ∨ ∃ host : String, Cond.methodLinkNest cn_M 156 y_M_wholeAt host ∈ xw_n := Or.inl (xw_in mw_912 rfl)
theorem ml_M_159 : Cond.methodLink cn_M 159 y_M_isZero ∈ xw_g ∨ ∃ host : String, Cond.methodLinkNest cn_M 159 y_M_isZero host ∈ xw_n := Or.inl (xw_in mw_924 rfl)
theorem ml_M_162 : Cond.methodLink cn_M 162 y_M_sign ∈ xw_g ∨ ∃ host : String, Cond.methodLinkNest cn_M 162 y_M_sign host ∈ xw_n := Or.inl (xw_in mw_908 rfl)
theorem ml_M_165 : Cond.methodLink cn_M 165 y_M_sizes ∈ xw_g ∨ ∃ host : String, Cond.methodLinkNest cn_M 165 y_M_sizes host ∈ xw_n := Or.inl (xw_in mw_940 rfl)
theorem ml_M_168 : Cond.methodLink cn_M 168 y_M_keysThere ∈ xw_g ∨ ∃ host : String, Cond.methodLinkNest cn_M 168 y_M_keysThere host ∈ xw_n := Or.inl (xw_in mw_852 rfl)
theorem ml_M_172 : Cond.methodLink cn_M 172 y_M_from ∈ xw_g ∨ ∃ host : String, Cond.methodLinkNest cn_M 172 y_M_from host ∈ xw_n := Or.inl (xw_in mw_896 rfl)
theorem ml_M_175 : Cond.methodLink cn_M 175 y_M_to ∈ xw_g ∨ ∃ host : String, Cond.methodLinkNest cn_M 175 y_M_to host ∈ xw_n := Or.inl (xw_in mw_900 rfl)
theorem ml_M_178 : Cond.methodLink cn_M 178 y_M_numbers ∈ xw_g ∨ ∃ host : String, Cond.methodLinkNest cn_M 178 y_M_numbers host ∈ xw_n := Or.inl (xw_in mw_904 rfl)
theorem ml_M_181 : Cond.methodLink cn_M 181 y_M_bytes ∈ xw_g ∨ ∃ host : String, Cond.methodLinkNest cn_M 181 y_M_bytes host ∈ xw_n := Or.inl (xw_in mw_944 rfl)
theorem ml_M_185 : Cond.methodLink cn_M 185 y_M_byKeys ∈ xw_g ∨ ∃ host : String, Cond.methodLinkNest cn_M 185 y_M_byKeys host ∈ xw_n := Or.inl (xw_in mw_892 rfl)
theorem fl_M_88 : xx_fl cn_M 88 9 6 := ⟨_, _, _, _, cf_M, by decide, Or.inl (xw_in mw_706 rfl)⟩
theorem fl_M_91 : xx_fl cn_M 91 9 7 := ⟨_, _, _, _, cf_M, by decide, Or.inl (xw_in mw_707 rfl)⟩
theorem ml_M_188 : Cond.methodLink cn_M 188 y_M_byAll ∈ xw_g ∨ ∃ host : String, Cond.methodLinkNest cn_M 188 y_M_byAll host ∈ xw_n := Or.inl (xw_in mw_972 rfl)
theorem ml_M_191 : Cond.methodLink cn_M 191 y_M_findLines ∈ xw_g ∨ ∃ host : String, Cond.methodLinkNest cn_M 191 y_M_findLines host ∈ xw_n := Or.inl (xw_in mw_844 rfl)
theorem fp_M_126 : xx_fp cn_M 126 9 15 .boolean := ⟨_, _, _, _, cf_M, by decide, rfl, by decide +kernel, Or.inl (xw_in mw_715 rfl)⟩
theorem fp_M_194 : xx_fp cn_M 194 9 21 .int := ⟨_, _, _, _, cf_M, by decide, rfl, by decide +kernel, Or.inl (xw_in mw_721 rfl)⟩
theorem fl_M_24 : xx_fl cn_M 24 9 11 := ⟨_, _, _, _, cf_M, by decide, Or.inl (xw_in mw_711 rfl)⟩
theorem fl_M_51 : xx_fl cn_M 51 9 27 := ⟨_, _, _, _, cf_M, by decide, Or.inl (xw_in mw_727 rfl)⟩
theorem ml_M_197 : Cond.methodLink cn_M 197 y_M_isBefore ∈ xw_g ∨ ∃ host : String, Cond.methodLinkNest cn_M 197 y_M_isBefore host ∈ xw_n := Or.inl (xw_in mw_968 rfl)
theorem fl_M_42 : xx_fl cn_M 42 9 19 := ⟨_, _, _, _, cf_M, by decide, Or.inl (xw_in mw_719 rfl)⟩
theorem fl_M_194 : xx_fl cn_M 194 9 21 := ⟨_, _, _, _, cf_M, by decide, Or.inl (xw_in mw_721 rfl)⟩
theorem fl_M_39 : xx_fl cn_M 39 9 18 := ⟨_, _, _, _, cf_M, by decide, Or.inl (xw_in mw_718 rfl)⟩
theorem fl_M_27 : xx_fl cn_M 27 9 12 := ⟨_, _, _, _, cf_M, by decide, Or.inl (xw_in mw_712 rfl)⟩
theorem fl_M_45 : xx_fl cn_M 45 9 20 := ⟨_, _, _, _, cf_M, by decide, Or.inl (xw_in mw_720 rfl)⟩
theorem fl_M_54 : xx_fl cn_M 54 9 31 := ⟨_, _, _, _, cf_M, by decide, Or.inl (xw_in mw_731 rfl)⟩
theorem ml_M_200 : Cond.methodLink cn_M 200 y_M_headOf ∈ xw_g ∨ ∃ host : String, Cond.methodLinkNest cn_M 200 y_M_headOf host ∈ xw_n := Or.inl (xw_in mw_980 rfl)
theorem fl_M_203 : xx_fl cn_M 203 9 24 := ⟨_, _, _, _, cf_M, by decide, Or.inl (xw_in mw_724 rfl)⟩
theorem fp_M_203 : xx_fp cn_M 203 9 24 .int := ⟨_, _, _, _, cf_M, by decide, rfl, by decide +kernel, Or.inl (xw_in mw_724 rfl)⟩
theorem fl_M_206 : xx_fl cn_M 206 9 25 := ⟨_, _, _, _, cf_M, by decide, Or.inl (xw_in mw_725 rfl)⟩
theorem fp_M_206 : xx_fp cn_M 206 9 25 .int := ⟨_, _, _, _, cf_M, by decide, rfl, by decide +kernel, Or.inl (xw_in mw_725 rfl)⟩
theorem ml_M_209 : Cond.methodLink cn_M 209 y_M_hold ∈ xw_g ∨ ∃ host : String, Cond.methodLinkNest cn_M 209 y_M_hold host ∈ xw_n := Or.inl (xw_in mw_960 rfl)
theorem ml_M_212 : Cond.methodLink cn_M 212 y_M_makeRuns ∈ xw_g ∨ ∃ host : String, Cond.methodLinkNest cn_M 212 y_M_makeRuns host ∈ xw_n := Or.inl (xw_in mw_964 rfl)
theorem fp_M_215 : xx_fp cn_M 215 9 23 .int := ⟨_, _, _, _, cf_M, by decide, rfl, by decide +kernel, Or.inl (xw_in mw_723 rfl)⟩
theorem fl_M_48 : xx_fl cn_M 48 9 22 := ⟨_, _, _, _, cf_M, by decide, Or.inl (xw_in mw_722 rfl)⟩
theorem ml_M_218 : Cond.methodLink cn_M 218 y_M_mergeFirst ∈ xw_g ∨ ∃ host : String, Cond.methodLinkNest cn_M 218 y_M_mergeFirst host ∈ xw_n := Or.inl (xw_in mw_976 rfl)
theorem fp_M_221 : xx_fp cn_M 221 9 26 .int := ⟨_, _, _, _, cf_M, by decide, rfl, by decide +kernel, Or.inl (xw_in mw_726 rfl)⟩
theorem fl_M_221 : xx_fl cn_M 221 9 26 := ⟨_, _, _, _, cf_M, by decide, Or.inl (xw_in mw_726 rfl)⟩
theorem fl_M_36 : xx_fl cn_M 36 9 16 := ⟨_, _, _, _, cf_M, by decide, Or.inl (xw_in mw_716 rfl)⟩
theorem fl_M_67 : xx_fl cn_M 67 9 17 := ⟨_, _, _, _, cf_M, by decide, Or.inl (xw_in mw_717 rfl)⟩
theorem fl_M_215 : xx_fl cn_M 215 9 23 := ⟨_, _, _, _, cf_M, by decide, Or.inl (xw_in mw_723 rfl)⟩
theorem ml_H_3 : Cond.methodLink "LineSorter$Heap" 3 ⟨"java/lang/Object", "<init>", "()V"⟩ ∈ xw_g := xw_in mw_184 rfl
theorem ff_H_9 : xx_ff cn_H 9 7 0 (.array .int) := ⟨_, _, _, _, cf_H, by decide, rfl, rfl, by decide +kernel, xw_in mw_185 rfl⟩
theorem fp_H_15 : xx_fp cn_H 15 7 1 .int := ⟨_, _, _, _, cf_H, by decide, rfl, by decide +kernel, Or.inl (xw_in mw_186 rfl)⟩
theorem fl_H_15 : xx_fl cn_H 15 7 1 := ⟨_, _, _, _, cf_H, by decide, Or.inl (xw_in mw_186 rfl)⟩
theorem fl_H_9 : xx_fl cn_H 9 7 0 := ⟨_, _, _, _, cf_H, by decide, Or.inl (xw_in mw_185 rfl)⟩
theorem ml_H_19 : Cond.methodLink cn_H 19 y_H_sinkFromTop ∈ xw_g ∨ ∃ host : String, Cond.methodLinkNest cn_H 19 y_H_sinkFromTop host ∈ xw_n := Or.inl (xw_in mw_653 rfl)
theorem ml_K_1 : Cond.methodLink "LineSorter$Key" 1 ⟨"java/lang/Object", "<init>", "()V"⟩ ∈ xw_g := xw_in mw_78 rfl
theorem ff_K_7 : xx_ff cn_K 7 4 0 .int := ⟨_, _, _, _, cf_K, by decide, rfl, rfl, by decide +kernel, xw_in mw_79 rfl⟩
theorem ff_K_13 : xx_ff cn_K 13 4 1 .int := ⟨_, _, _, _, cf_K, by decide, rfl, rfl, by decide +kernel, xw_in mw_81 rfl⟩
theorem ff_K_16 : xx_ff cn_K 16 4 2 .int := ⟨_, _, _, _, cf_K, by decide, rfl, rfl, by decide +kernel, xw_in mw_83 rfl⟩
theorem ff_K_19 : xx_ff cn_K 19 4 3 .int := ⟨_, _, _, _, cf_K, by decide, rfl, rfl, by decide +kernel, xw_in mw_85 rfl⟩
theorem ff_K_22 : xx_ff cn_K 22 4 4 .int := ⟨_, _, _, _, cf_K, by decide, rfl, rfl, by decide +kernel, xw_in mw_87 rfl⟩
theorem ml_N_1 : Cond.methodLink "LineSorter$Numeral" 1 ⟨"java/lang/Object", "<init>", "()V"⟩ ∈ xw_g := xw_in mw_106 rfl
theorem ml_N_7 : Cond.methodLink cn_N 7 y_T_isBlankAt ∈ xw_g ∨ ∃ host : String, Cond.methodLinkNest cn_N 7 y_T_isBlankAt host ∈ xw_n := Or.inl (xw_in mw_346 rfl)
theorem ml_N_13 : Cond.methodLink cn_N 13 y_T_at ∈ xw_g ∨ ∃ host : String, Cond.methodLinkNest cn_N 13 y_T_at host ∈ xw_n := Or.inl (xw_in mw_347 rfl)
theorem fp_N_17 : xx_fp cn_N 17 5 1 .int := ⟨_, _, _, _, cf_N, by decide, rfl, by decide +kernel, Or.inl (xw_in mw_109 rfl)⟩
theorem fl_N_17 : xx_fl cn_N 17 5 1 := ⟨_, _, _, _, cf_N, by decide, Or.inl (xw_in mw_109 rfl)⟩
theorem ml_N_23 : Cond.methodLink cn_N 23 y_T_passDigits ∈ xw_g ∨ ∃ host : String, Cond.methodLinkNest cn_N 23 y_T_passDigits host ∈ xw_n := Or.inl (xw_in mw_348 rfl)
theorem fp_N_27 : xx_fp cn_N 27 5 2 .int := ⟨_, _, _, _, cf_N, by decide, rfl, by decide +kernel, Or.inl (xw_in mw_111 rfl)⟩
theorem fl_N_27 : xx_fl cn_N 27 5 2 := ⟨_, _, _, _, cf_N, by decide, Or.inl (xw_in mw_111 rfl)⟩
theorem fp_N_30 : xx_fp cn_N 30 5 3 .int := ⟨_, _, _, _, cf_N, by decide, rfl, by decide +kernel, Or.inl (xw_in mw_113 rfl)⟩
theorem fl_N_30 : xx_fl cn_N 30 5 3 := ⟨_, _, _, _, cf_N, by decide, Or.inl (xw_in mw_113 rfl)⟩
theorem fp_N_33 : xx_fp cn_N 33 5 4 .int := ⟨_, _, _, _, cf_N, by decide, rfl, by decide +kernel, Or.inl (xw_in mw_115 rfl)⟩
theorem fl_N_33 : xx_fl cn_N 33 5 4 := ⟨_, _, _, _, cf_N, by decide, Or.inl (xw_in mw_115 rfl)⟩
theorem fp_N_36 : xx_fp cn_N 36 5 0 .int := ⟨_, _, _, _, cf_N, by decide, rfl, by decide +kernel, Or.inl (xw_in mw_107 rfl)⟩
theorem ml_O_3 : Cond.methodLink "LineSorter$Order" 3 ⟨"java/lang/Object", "<init>", "()V"⟩ ∈ xw_g := xw_in mw_72 rfl
theorem ff_O_9 : xx_ff cn_O 9 3 0 (.object "LineSorter$Text") := ⟨_, _, _, _, cf_O, by decide, rfl, rfl, by decide +kernel, xw_in mw_128 rfl⟩
theorem ff_O_15 : xx_ff cn_O 15 3 1 (.object "LineSorter$Places") := ⟨_, _, _, _, cf_O, by decide, rfl, rfl, by decide +kernel, xw_in mw_129 rfl⟩
theorem nw_O_19 : xx_nw cn_O 19 4 [.int 0, .int 0, .int 0, .int 0, .int 0] 5 := ⟨_, _, _, cf_K, xw_in mw_73 rfl, xw_in mw_74 rfl, xw_in mw_5 rfl, by decide⟩
theorem ml_O_21 : Cond.methodLink cn_O 21 y_K_init ∈ xw_g ∨ ∃ host : String, Cond.methodLinkNest cn_O 21 y_K_init host ∈ xw_n := Or.inl (xw_in mw_75 rfl)
theorem ff_O_24 : xx_ff cn_O 24 3 3 (.object "LineSorter$Key") := ⟨_, _, _, _, cf_O, by decide, rfl, rfl, by decide +kernel, xw_in mw_131 rfl⟩
theorem ff_O_28 : xx_ff cn_O 28 3 2 (.array (.object "LineSorter$Key")) := ⟨_, _, _, _, cf_O, by decide, rfl, rfl, by decide +kernel, xw_in mw_130 rfl⟩
theorem fl_O_28 : xx_fl cn_O 28 3 2 := ⟨_, _, _, _, cf_O, by decide, Or.inl (xw_in mw_130 rfl)⟩
theorem fl_O_24 : xx_fl cn_O 24 3 3 := ⟨_, _, _, _, cf_O, by decide, Or.inl (xw_in mw_131 rfl)⟩
theorem nw_O_32 : xx_nw cn_O 32 5 [.int 0, .int 0, .int 0, .int 0, .int 0] 5 := ⟨_, _, _, cf_N, xw_in mw_101 rfl, xw_in mw_102 rfl, xw_in mw_6 rfl, by decide⟩
theorem ml_O_34 : Cond.methodLink cn_O 34 y_N_init ∈ xw_g ∨ ∃ host : String, Cond.methodLinkNest cn_O 34 y_N_init host ∈ xw_n := Or.inr ⟨_, xw_inN mw_103 rfl⟩
theorem ff_O_35 : xx_ff cn_O 35 3 4 (.object "LineSorter$Numeral") := ⟨_, _, _, _, cf_O, by decide, rfl, rfl, by decide +kernel, xw_in mw_132 rfl⟩
theorem ff_O_39 : xx_ff cn_O 39 3 5 (.object "LineSorter$Numeral") := ⟨_, _, _, _, cf_O, by decide, rfl, rfl, by decide +kernel, xw_in mw_133 rfl⟩
theorem fp_O_42 : xx_fp cn_O 42 3 6 .int := ⟨_, _, _, _, cf_O, by decide, rfl, by decide +kernel, Or.inl (xw_in mw_134 rfl)⟩
theorem fp_O_46 : xx_fp cn_O 46 3 7 .int := ⟨_, _, _, _, cf_O, by decide, rfl, by decide +kernel, Or.inl (xw_in mw_136 rfl)⟩
theorem fp_O_49 : xx_fp cn_O 49 3 8 .boolean := ⟨_, _, _, _, cf_O, by decide, rfl, by decide +kernel, Or.inl (xw_in mw_138 rfl)⟩
theorem fp_O_53 : xx_fp cn_O 53 3 9 .boolean := ⟨_, _, _, _, cf_O, by decide, rfl, by decide +kernel, Or.inl (xw_in mw_140 rfl)⟩
theorem fl_O_42 : xx_fl cn_O 42 3 6 := ⟨_, _, _, _, cf_O, by decide, Or.inl (xw_in mw_134 rfl)⟩
theorem ml_O_56 : Cond.methodLink "LineSorter$Order" 56 ⟨"java/lang/Math", "max", "(II)I"⟩ ∈ xw_g := xw_in mw_291 rfl
theorem fl_O_62 : xx_fl cn_O 62 4 4 := ⟨_, _, _, _, cf_K, by decide, Or.inr ⟨_, xw_inN mw_88 rfl⟩⟩
theorem fl_O_46 : xx_fl cn_O 46 3 7 := ⟨_, _, _, _, cf_O, by decide, Or.inl (xw_in mw_136 rfl)⟩
theorem ml_O_65 : Cond.methodLink cn_O 65 y_O_comparedByKeys ∈ xw_g ∨ ∃ host : String, Cond.methodLinkNest cn_O 65 y_O_comparedByKeys host ∈ xw_n := Or.inl (xw_in mw_283 rfl)
theorem fl_O_49 : xx_fl cn_O 49 3 8 := ⟨_, _, _, _, cf_O, by decide, Or.inl (xw_in mw_138 rfl)⟩
theorem fl_O_53 : xx_fl cn_O 53 3 9 := ⟨_, _, _, _, cf_O, by decide, Or.inl (xw_in mw_140 rfl)⟩
theorem fl_O_9 : xx_fl cn_O 9 3 0 := ⟨_, _, _, _, cf_O, by decide, Or.inl (xw_in mw_128 rfl)⟩
theorem ml_O_68 : Cond.methodLink cn_O 68 y_T_startOf ∈ xw_g ∨ ∃ host : String, Cond.methodLinkNest cn_O 68 y_T_startOf host ∈ xw_n := Or.inl (xw_in mw_367 rfl)
theorem ml_O_74 : Cond.methodLink cn_O 74 y_T_stopOf ∈ xw_g ∨ ∃ host : String, Cond.methodLinkNest cn_O 74 y_T_stopOf host ∈ xw_n := Or.inl (xw_in mw_368 rfl)
theorem ml_O_77 : Cond.methodLink cn_O 77 y_T_comparedBytes ∈ xw_g ∨ ∃ host : String, Cond.methodLinkNest cn_O 77 y_T_comparedBytes host ∈ xw_n := Or.inl (xw_in mw_359 rfl)
theorem ml_O_81 : Cond.methodLink cn_O 81 y_O_keysInUse ∈ xw_g ∨ ∃ host : String, Cond.methodLinkNest cn_O 81 y_O_keysInUse host ∈ xw_n := Or.inl (xw_in mw_287 rfl)
theorem ml_O_85 : Cond.methodLink cn_O 85 y_O_keyInUse ∈ xw_g ∨ ∃ host : String, Cond.methodLinkNest cn_O 85 y_O_keyInUse host ∈ xw_n := Or.inl (xw_in mw_294 rfl)
theorem ml_O_89 : Cond.methodLink cn_O 89 y_O_flagsOf ∈ xw_g ∨ ∃ host : String, Cond.methodLinkNest cn_O 89 y_O_flagsOf host ∈ xw_n := Or.inl (xw_in mw_298 rfl)
theorem fl_O_15 : xx_fl cn_O 15 3 1 := ⟨_, _, _, _, cf_O, by decide, Or.inl (xw_in mw_129 rfl)⟩
theorem ml_O_93 : Cond.methodLink cn_O 93 y_P_beginOf ∈ xw_g ∨ ∃ host : String, Cond.methodLinkNest cn_O 93 y_P_beginOf host ∈ xw_n := Or.inl (xw_in mw_302 rfl)
theorem ml_O_99 : Cond.methodLink cn_O 99 y_P_endOf ∈ xw_g ∨ ∃ host : String, Cond.methodLinkNest cn_O 99 y_P_endOf host ∈ xw_n := Or.inl (xw_in mw_334 rfl)
theorem ml_O_102 : Cond.methodLink cn_O 102 y_O_comparedAsNumbers ∈ xw_g ∨ ∃ host : String, Cond.methodLinkNest cn_O 102 y_O_comparedAsNumbers host ∈ xw_n := Or.inl (xw_in mw_338 rfl)
theorem fl_O_35 : xx_fl cn_O 35 3 4 := ⟨_, _, _, _, cf_O, by decide, Or.inl (xw_in mw_132 rfl)⟩
theorem ml_O_106 : Cond.methodLink cn_O 106 y_N_read ∈ xw_g ∨ ∃ host : String, Cond.methodLinkNest cn_O 106 y_N_read host ∈ xw_n := Or.inl (xw_in mw_342 rfl)
theorem fl_O_39 : xx_fl cn_O 39 3 5 := ⟨_, _, _, _, cf_O, by decide, Or.inl (xw_in mw_133 rfl)⟩
theorem fl_O_110 : xx_fl cn_O 110 5 0 := ⟨_, _, _, _, cf_N, by decide, Or.inr ⟨_, xw_inN mw_108 rfl⟩⟩
theorem ml_O_113 : Cond.methodLink "LineSorter$Order" 113 y_J_compare ∈ xw_g := xw_in mw_352 rfl
theorem ml_O_118 : Cond.methodLink cn_O 118 y_N_wholeLength ∈ xw_g ∨ ∃ host : String, Cond.methodLinkNest cn_O 118 y_N_wholeLength host ∈ xw_n := Or.inl (xw_in mw_355 rfl)
theorem fl_O_121 : xx_fl cn_O 121 5 1 := ⟨_, _, _, _, cf_N, by decide, Or.inr ⟨_, xw_inN mw_110 rfl⟩⟩
theorem fl_O_124 : xx_fl cn_O 124 5 2 := ⟨_, _, _, _, cf_N, by decide, Or.inr ⟨_, xw_inN mw_112 rfl⟩⟩
theorem fl_O_127 : xx_fl cn_O 127 5 3 := ⟨_, _, _, _, cf_N, by decide, Or.inr ⟨_, xw_inN mw_114 rfl⟩⟩
theorem fl_O_130 : xx_fl cn_O 130 5 4 := ⟨_, _, _, _, cf_N, by decide, Or.inr ⟨_, xw_inN mw_116 rfl⟩⟩
theorem ml_P_3 : Cond.methodLink "LineSorter$Places" 3 ⟨"java/lang/Object", "<init>", "()V"⟩ ∈ xw_g := xw_in mw_58 rfl
theorem ff_P_9 : xx_ff cn_P 9 2 0 (.object "LineSorter$Text") := ⟨_, _, _, _, cf_P, by decide, rfl, rfl, by decide +kernel, xw_in mw_59 rfl⟩
theorem fp_P_15 : xx_fp cn_P 15 2 1 .int := ⟨_, _, _, _, cf_P, by decide, rfl, by decide +kernel, Or.inl (xw_in mw_60 rfl)⟩
theorem fl_P_9 : xx_fl cn_P 9 2 0 := ⟨_, _, _, _, cf_P, by decide, Or.inl (xw_in mw_59 rfl)⟩
theorem ml_P_19 : Cond.methodLink cn_P 19 y_T_stopOf ∈ xw_g ∨ ∃ host : String, Cond.methodLinkNest cn_P 19 y_T_stopOf host ∈ xw_n := Or.inl (xw_in mw_306 rfl)
theorem fl_P_25 : xx_fl cn_P 25 4 0 := ⟨_, _, _, _, cf_K, by decide, Or.inr ⟨_, xw_inN mw_80 rfl⟩⟩
theorem ml_P_30 : Cond.methodLink cn_P 30 y_T_startOf ∈ xw_g ∨ ∃ host : String, Cond.methodLinkNest cn_P 30 y_T_startOf host ∈ xw_n := Or.inl (xw_in mw_310 rfl)
theorem ml_P_33 : Cond.methodLink cn_P 33 y_P_fieldStart ∈ xw_g ∨ ∃ host : String, Cond.methodLinkNest cn_P 33 y_P_fieldStart host ∈ xw_n := Or.inl (xw_in mw_311 rfl)
theorem ml_P_37 : Cond.methodLink cn_P 37 y_P_passBlanksOfField ∈ xw_g ∨ ∃ host : String, Cond.methodLinkNest cn_P 37 y_P_passBlanksOfField host ∈ xw_n := Or.inl (xw_in mw_319 rfl)
theorem fl_P_41 : xx_fl cn_P 41 4 1 := ⟨_, _, _, _, cf_K, by decide, Or.inr ⟨_, xw_inN mw_82 rfl⟩⟩
theorem ml_P_44 : Cond.methodLink "LineSorter$Places" 44 ⟨"java/lang/Math", "min", "(II)I"⟩ ∈ xw_g := xw_in mw_331 rfl
theorem fl_P_49 : xx_fl cn_P 49 4 2 := ⟨_, _, _, _, cf_K, by decide, Or.inr ⟨_, xw_inN mw_84 rfl⟩⟩
theorem fl_P_52 : xx_fl cn_P 52 4 3 := ⟨_, _, _, _, cf_K, by decide, Or.inr ⟨_, xw_inN mw_86 rfl⟩⟩
theorem ml_P_55 : Cond.methodLink cn_P 55 y_P_fieldStop ∈ xw_g ∨ ∃ host : String, Cond.methodLinkNest cn_P 55 y_P_fieldStop host ∈ xw_n := Or.inl (xw_in mw_315 rfl)
theorem fl_P_15 : xx_fl cn_P 15 2 1 := ⟨_, _, _, _, cf_P, by decide, Or.inl (xw_in mw_60 rfl)⟩
theorem fl_P_58 : xx_fl cn_P 58 1 0 := ⟨_, _, _, _, cf_T, by decide, Or.inr ⟨_, xw_inN mw_37 rfl⟩⟩
theorem ml_P_62 : Cond.methodLink cn_P 62 y_T_isBlankAt ∈ xw_g ∨ ∃ host : String, Cond.methodLinkNest cn_P 62 y_T_isBlankAt host ∈ xw_n := Or.inl (xw_in mw_323 rfl)
theorem ml_P_66 : Cond.methodLink cn_P 66 y_T_at ∈ xw_g ∨ ∃ host : String, Cond.methodLinkNest cn_P 66 y_T_at host ∈ xw_n := Or.inl (xw_in mw_327 rfl)
theorem ml_R_3 : Cond.methodLink "LineSorter$Ranking" 3 ⟨"java/lang/Object", "<init>", "()V"⟩ ∈ xw_g := xw_in mw_168 rfl
theorem ff_R_9 : xx_ff cn_R 9 6 0 (.object "LineSorter$Order") := ⟨_, _, _, _, cf_R, by decide, rfl, rfl, by decide +kernel, xw_in mw_169 rfl⟩
theorem ff_R_15 : xx_ff cn_R 15 6 1 (.array .int) := ⟨_, _, _, _, cf_R, by decide, rfl, rfl, by decide +kernel, xw_in mw_170 rfl⟩
theorem ff_R_19 : xx_ff cn_R 19 6 2 (.array .int) := ⟨_, _, _, _, cf_R, by decide, rfl, rfl, by decide +kernel, xw_in mw_171 rfl⟩
theorem fl_R_9 : xx_fl cn_R 9 6 0 := ⟨_, _, _, _, cf_R, by decide, Or.inl (xw_in mw_169 rfl)⟩
theorem fl_R_19 : xx_fl cn_R 19 6 2 := ⟨_, _, _, _, cf_R, by decide, Or.inl (xw_in mw_171 rfl)⟩
theorem ml_R_22 : Cond.methodLink cn_R 22 y_O_comparedNumbersAside ∈ xw_g ∨ ∃ host : String, Cond.methodLinkNest cn_R 22 y_O_comparedNumbersAside host ∈ xw_n := Or.inl (xw_in mw_630 rfl)
theorem ml_R_28 : Cond.methodLink "LineSorter$Ranking" 28 ⟨"java/lang/System", "arraycopy", "(Ljava/lang/Object;ILjava/lang/Object;II)V"⟩ ∈ xw_g := xw_in mw_631 rfl
theorem fl_R_15 : xx_fl cn_R 15 6 1 := ⟨_, _, _, _, cf_R, by decide, Or.inl (xw_in mw_170 rfl)⟩
theorem ml_U_3 : Cond.methodLink "LineSorter$Runs" 3 ⟨"java/lang/Object", "<init>", "()V"⟩ ∈ xw_g := xw_in mw_197 rfl
theorem ff_U_9 : xx_ff cn_U 9 8 0 (.object "LineSorter$Ranking") := ⟨_, _, _, _, cf_U, by decide, rfl, rfl, by decide +kernel, xw_in mw_198 rfl⟩
theorem ff_U_15 : xx_ff cn_U 15 8 1 (.object "LineSorter$Heap") := ⟨_, _, _, _, cf_U, by decide, rfl, rfl, by decide +kernel, xw_in mw_199 rfl⟩
theorem ff_U_19 : xx_ff cn_U 19 8 2 (.array .int) := ⟨_, _, _, _, cf_U, by decide, rfl, rfl, by decide +kernel, xw_in mw_200 rfl⟩
theorem ff_U_23 : xx_ff cn_U 23 8 3 (.array .int) := ⟨_, _, _, _, cf_U, by decide, rfl, rfl, by decide +kernel, xw_in mw_202 rfl⟩
theorem fp_U_26 : xx_fp cn_U 26 8 4 .int := ⟨_, _, _, _, cf_U, by decide, rfl, by decide +kernel, Or.inl (xw_in mw_203 rfl)⟩
theorem fp_U_30 : xx_fp cn_U 30 8 5 .int := ⟨_, _, _, _, cf_U, by decide, rfl, by decide +kernel, Or.inl (xw_in mw_205 rfl)⟩
theorem fp_U_33 : xx_fp cn_U 33 8 6 .int := ⟨_, _, _, _, cf_U, by decide, rfl, by decide +kernel, Or.inl (xw_in mw_207 rfl)⟩
theorem fp_U_36 : xx_fp cn_U 36 8 7 .int := ⟨_, _, _, _, cf_U, by decide, rfl, by decide +kernel, Or.inl (xw_in mw_209 rfl)⟩
theorem ml_U_39 : Cond.methodLink "LineSorter$Runs" 39 ⟨"java/lang/Math", "min", "(II)I"⟩ ∈ xw_g := xw_in mw_636 rfl
theorem fl_U_15 : xx_fl cn_U 15 8 1 := ⟨_, _, _, _, cf_U, by decide, Or.inl (xw_in mw_199 rfl)⟩
theorem ml_U_45 : Cond.methodLink cn_U 45 y_H_clear ∈ xw_g ∨ ∃ host : String, Cond.methodLinkNest cn_U 45 y_H_clear host ∈ xw_n := Or.inl (xw_in mw_637 rfl)
theorem fl_U_9 : xx_fl cn_U 9 8 0 := ⟨_, _, _, _, cf_U, by decide, Or.inl (xw_in mw_198 rfl)⟩
theorem ml_U_50 : Cond.methodLink cn_U 50 y_R_rankOf ∈ xw_g ∨ ∃ host : String, Cond.methodLinkNest cn_U 50 y_R_rankOf host ∈ xw_n := Or.inl (xw_in mw_641 rfl)
theorem ml_U_56 : Cond.methodLink cn_U 56 y_H_put ∈ xw_g ∨ ∃ host : String, Cond.methodLinkNest cn_U 56 y_H_put host ∈ xw_n := Or.inl (xw_in mw_645 rfl)
theorem ml_U_60 : Cond.methodLink cn_U 60 y_H_takeLeast ∈ xw_g ∨ ∃ host : String, Cond.methodLinkNest cn_U 60 y_H_takeLeast host ∈ xw_n := Or.inl (xw_in mw_649 rfl)
theorem ml_U_64 : Cond.methodLink cn_U 64 y_U_addLineToRun ∈ xw_g ∨ ∃ host : String, Cond.methodLinkNest cn_U 64 y_U_addLineToRun host ∈ xw_n := Or.inl (xw_in mw_657 rfl)
theorem fl_U_26 : xx_fl cn_U 26 8 4 := ⟨_, _, _, _, cf_U, by decide, Or.inl (xw_in mw_203 rfl)⟩
theorem fl_U_19 : xx_fl cn_U 19 8 2 := ⟨_, _, _, _, cf_U, by decide, Or.inl (xw_in mw_200 rfl)⟩
theorem fl_U_23 : xx_fl cn_U 23 8 3 := ⟨_, _, _, _, cf_U, by decide, Or.inl (xw_in mw_202 rfl)⟩
theorem ml_U_67 : Cond.methodLink "LineSorter$Runs" 67 ⟨"java/lang/System", "arraycopy", "(Ljava/lang/Object;ILjava/lang/Object;II)V"⟩ ∈ xw_g := xw_in mw_665 rfl
theorem fl_U_30 : xx_fl cn_U 30 8 5 := ⟨_, _, _, _, cf_U, by decide, Or.inl (xw_in mw_205 rfl)⟩
theorem fl_U_33 : xx_fl cn_U 33 8 6 := ⟨_, _, _, _, cf_U, by decide, Or.inl (xw_in mw_207 rfl)⟩
theorem ml_T_3 : Cond.methodLink "LineSorter$Text" 3 ⟨"java/lang/Object", "<init>", "()V"⟩ ∈ xw_g := xw_in mw_35 rfl
theorem fp_T_11 : xx_fp cn_T 11 1 0 (.array .byte) := ⟨_, _, _, _, cf_T, by decide, rfl, by decide +kernel, Or.inl (xw_in mw_36 rfl)⟩
theorem fp_T_15 : xx_fp cn_T 15 1 1 .int := ⟨_, _, _, _, cf_T, by decide, rfl, by decide +kernel, Or.inl (xw_in mw_38 rfl)⟩
theorem fp_T_19 : xx_fp cn_T 19 1 2 (.array .int) := ⟨_, _, _, _, cf_T, by decide, rfl, by decide +kernel, Or.inl (xw_in mw_40 rfl)⟩
theorem fp_T_23 : xx_fp cn_T 23 1 3 .int := ⟨_, _, _, _, cf_T, by decide, rfl, by decide +kernel, Or.inl (xw_in mw_41 rfl)⟩
theorem ml_T_26 : Cond.methodLink cn_T 26 y_T_makeRoom ∈ xw_g ∨ ∃ host : String, Cond.methodLinkNest cn_T 26 y_T_makeRoom host ∈ xw_n := Or.inl (xw_in mw_467 rfl)
theorem fl_T_19 : xx_fl cn_T 19 1 2 := ⟨_, _, _, _, cf_T, by decide, Or.inl (xw_in mw_40 rfl)⟩
theorem fl_T_23 : xx_fl cn_T 23 1 3 := ⟨_, _, _, _, cf_T, by decide, Or.inl (xw_in mw_41 rfl)⟩
theorem fl_T_15 : xx_fl cn_T 15 1 1 := ⟨_, _, _, _, cf_T, by decide, Or.inl (xw_in mw_38 rfl)⟩
theorem fl_T_11 : xx_fl cn_T 11 1 0 := ⟨_, _, _, _, cf_T, by decide, Or.inl (xw_in mw_36 rfl)⟩
theorem ml_T_30 : Cond.methodLink "LineSorter$Text" 30 y_J_copyB ∈ xw_g := xw_in mw_471 rfl
theorem ml_T_36 : Cond.methodLink "LineSorter$Text" 36 y_J_copyI ∈ xw_g := xw_in mw_485 rfl
theorem ml_T_39 : Cond.methodLink cn_T 39 y_T_startOf ∈ xw_g ∨ ∃ host : String, Cond.methodLinkNest cn_T 39 y_T_startOf host ∈ xw_n := Or.inl (xw_in mw_271 rfl)
theorem ml_T_43 : Cond.methodLink cn_T 43 y_T_at ∈ xw_g ∨ ∃ host : String, Cond.methodLinkNest cn_T 43 y_T_at host ∈ xw_n := Or.inl (xw_in mw_363 rfl)
theorem ml_T_46 : Cond.methodLink "LineSorter$Text" 46 y_T_weightOf ∈ xw_g := xw_in mw_364 rfl
theorem ml_L_7 : Cond.methodLink cn_L 7 y_S_feed ∈ xw_g ∨ ∃ host : String, Cond.methodLinkNest cn_L 7 y_S_feed host ∈ xw_n := Or.inl (xw_in mw_391 rfl)
theorem ml_L_15 : Cond.methodLink cn_L 15 y_S_end ∈ xw_g ∨ ∃ host : String, Cond.methodLinkNest cn_L 15 y_S_end host ∈ xw_n := Or.inl (xw_in mw_497 rfl)
theorem ml_L_21 : Cond.methodLink cn_L 21 y_S_ways ∈ xw_g ∨ ∃ host : String, Cond.methodLinkNest cn_L 21 y_S_ways host ∈ xw_n := Or.inl (xw_in mw_524 rfl)
theorem ml_L_25 : Cond.methodLink cn_L 25 y_S_separator ∈ xw_g ∨ ∃ host : String, Cond.methodLinkNest cn_L 25 y_S_separator host ∈ xw_n := Or.inl (xw_in mw_532 rfl)
theorem ml_L_28 : Cond.methodLink cn_L 28 y_S_key ∈ xw_g ∨ ∃ host : String, Cond.methodLinkNest cn_L 28 y_S_key host ∈ xw_n := Or.inl (xw_in mw_541 rfl)
theorem ml_L_33 : Cond.methodLink cn_L 33 y_S_memory ∈ xw_g ∨ ∃ host : String, Cond.methodLinkNest cn_L 33 y_S_memory host ∈ xw_n := Or.inl (xw_in mw_571 rfl)
theorem ml_L_37 : Cond.methodLink cn_L 37 y_S_place ∈ xw_g ∨ ∃ host : String, Cond.methodLinkNest cn_L 37 y_S_place host ∈ xw_n := Or.inl (xw_in mw_580 rfl)
theorem ml_L_43 : Cond.methodLink cn_L 43 y_S_compare ∈ xw_g ∨ ∃ host : String, Cond.methodLinkNest cn_L 43 y_S_compare host ∈ xw_n := Or.inl (xw_in mw_612 rfl)
theorem ml_L_47 : Cond.methodLink cn_L 47 y_S_sort ∈ xw_g ∨ ∃ host : String, Cond.methodLinkNest cn_L 47 y_S_sort host ∈ xw_n := Or.inl (xw_in mw_621 rfl)
theorem ml_L_51 : Cond.methodLink cn_L 51 y_S_merge ∈ xw_g ∨ ∃ host : String, Cond.methodLinkNest cn_L 51 y_S_merge host ∈ xw_n := Or.inl (xw_in mw_677 rfl)
theorem ml_L_55 : Cond.methodLink cn_L 55 y_S_about ∈ xw_g ∨ ∃ host : String, Cond.methodLinkNest cn_L 55 y_S_about host ∈ xw_n := Or.inl (xw_in mw_689 rfl)
theorem nw_L_8 : xx_nw cn_L 8 0 [.null, .null, .null, .null, .null, .null, .null, .int 0, .int 0, .int 0] 10 := ⟨_, _, _, cf_S, xw_in mw_22 rfl, xw_in mw_23 rfl, xw_in mw_1 rfl, by decide⟩
theorem ml_L_58 : Cond.methodLink cn_L 58 y_S_init ∈ xw_g ∨ ∃ host : String, Cond.methodLinkNest cn_L 58 y_S_init host ∈ xw_n := Or.inl (xw_in mw_24 rfl)
theorem nw_L_59 : xx_nw cn_L 59 9 [.null, .int 0, .null, .int 0, .int 0, .int 0, .int 0, .int 0, .int 0, .null, .int 0, .int 0, .int 0, .null, .null, .int 0, .null, .int 0, .null, .null, .null, .int 0, .null, .int 0, .int 0, .int 0, .int 0, .null, .int 0, .int 0, .int 0, .null] 32 := ⟨_, _, _, cf_M, xw_in mw_694 rfl, xw_in mw_695 rfl, xw_in mw_10 rfl, by decide⟩
theorem ml_L_61 : Cond.methodLink cn_L 61 y_M_init ∈ xw_g ∨ ∃ host : String, Cond.methodLinkNest cn_L 61 y_M_init host ∈ xw_n := Or.inl (xw_in mw_696 rfl)
theorem ml_L_62 : Cond.methodLink "LineSorterLaw" 62 y_L_feed ∈ xw_g := xw_in mw_387 rfl
theorem ml_L_67 : Cond.methodLink cn_L 67 y_M_feed ∈ xw_g ∨ ∃ host : String, Cond.methodLinkNest cn_L 67 y_M_feed host ∈ xw_n := Or.inl (xw_in mw_801 rfl)
theorem ml_L_68 : Cond.methodLink cn_L 68 y_M_thrown ∈ xw_g ∨ ∃ host : String, Cond.methodLinkNest cn_L 68 y_M_thrown host ∈ xw_n := Or.inl (xw_in mw_797 rfl)
theorem ml_L_71 : Cond.methodLink "LineSorterLaw" 71 y_L_end ∈ xw_g := xw_in mw_493 rfl
theorem ml_L_74 : Cond.methodLink cn_L 74 y_M_end ∈ xw_g ∨ ∃ host : String, Cond.methodLinkNest cn_L 74 y_M_end host ∈ xw_n := Or.inl (xw_in mw_813 rfl)
theorem ml_L_75 : Cond.methodLink "LineSorterLaw" 75 y_L_ways ∈ xw_g := xw_in mw_521 rfl
theorem ml_L_78 : Cond.methodLink cn_L 78 y_M_ways ∈ xw_g ∨ ∃ host : String, Cond.methodLinkNest cn_L 78 y_M_ways host ∈ xw_n := Or.inl (xw_in mw_817 rfl)
theorem ml_L_79 : Cond.methodLink "LineSorterLaw" 79 y_L_separator ∈ xw_g := xw_in mw_529 rfl
theorem ml_L_81 : Cond.methodLink cn_L 81 y_M_separator ∈ xw_g ∨ ∃ host : String, Cond.methodLinkNest cn_L 81 y_M_separator host ∈ xw_n := Or.inl (xw_in mw_824 rfl)
theorem ml_L_82 : Cond.methodLink "LineSorterLaw" 82 y_L_key ∈ xw_g := xw_in mw_537 rfl
theorem ml_L_84 : Cond.methodLink cn_L 84 y_M_key ∈ xw_g ∨ ∃ host : String, Cond.methodLinkNest cn_L 84 y_M_key host ∈ xw_n := Or.inl (xw_in mw_828 rfl)
theorem ml_L_85 : Cond.methodLink cn_L 85 y_S_keyless ∈ xw_g ∨ ∃ host : String, Cond.methodLinkNest cn_L 85 y_S_keyless host ∈ xw_n := Or.inl (xw_in mw_259 rfl)
theorem ml_L_88 : Cond.methodLink cn_L 88 y_M_keyless ∈ xw_g ∨ ∃ host : String, Cond.methodLinkNest cn_L 88 y_M_keyless host ∈ xw_n := Or.inl (xw_in mw_832 rfl)
theorem ml_L_89 : Cond.methodLink "LineSorterLaw" 89 y_L_memory ∈ xw_g := xw_in mw_568 rfl
theorem ml_L_92 : Cond.methodLink cn_L 92 y_M_memory ∈ xw_g ∨ ∃ host : String, Cond.methodLinkNest cn_L 92 y_M_memory host ∈ xw_n := Or.inl (xw_in mw_836 rfl)
theorem ml_L_93 : Cond.methodLink cn_L 93 y_S_lines ∈ xw_g ∨ ∃ host : String, Cond.methodLinkNest cn_L 93 y_S_lines host ∈ xw_n := Or.inl (xw_in mw_263 rfl)
theorem ml_L_96 : Cond.methodLink cn_L 96 y_M_lines ∈ xw_g ∨ ∃ host : String, Cond.methodLinkNest cn_L 96 y_M_lines host ∈ xw_n := Or.inl (xw_in mw_840 rfl)
theorem ml_L_97 : Cond.methodLink "LineSorterLaw" 97 y_L_place ∈ xw_g := xw_in mw_576 rfl
theorem ml_L_100 : Cond.methodLink cn_L 100 y_M_place ∈ xw_g ∨ ∃ host : String, Cond.methodLinkNest cn_L 100 y_M_place host ∈ xw_n := Or.inl (xw_in mw_848 rfl)
theorem ml_L_101 : Cond.methodLink "LineSorterLaw" 101 y_L_compare ∈ xw_g := xw_in mw_609 rfl
theorem ml_L_104 : Cond.methodLink cn_L 104 y_M_compare ∈ xw_g ∨ ∃ host : String, Cond.methodLinkNest cn_L 104 y_M_compare host ∈ xw_n := Or.inl (xw_in mw_888 rfl)
theorem ml_L_105 : Cond.methodLink "LineSorterLaw" 105 y_L_sort ∈ xw_g := xw_in mw_618 rfl
theorem ml_L_108 : Cond.methodLink cn_L 108 y_M_sort ∈ xw_g ∨ ∃ host : String, Cond.methodLinkNest cn_L 108 y_M_sort host ∈ xw_n := Or.inl (xw_in mw_956 rfl)
theorem ml_L_109 : Cond.methodLink cn_L 109 y_S_check ∈ xw_g ∨ ∃ host : String, Cond.methodLinkNest cn_L 109 y_S_check host ∈ xw_n := Or.inl (xw_in mw_275 rfl)
theorem ml_L_112 : Cond.methodLink cn_L 112 y_M_check ∈ xw_g ∨ ∃ host : String, Cond.methodLinkNest cn_L 112 y_M_check host ∈ xw_n := Or.inl (xw_in mw_984 rfl)
theorem ml_L_113 : Cond.methodLink "LineSorterLaw" 113 y_L_merge ∈ xw_g := xw_in mw_674 rfl
theorem ml_L_116 : Cond.methodLink cn_L 116 y_M_merge ∈ xw_g ∨ ∃ host : String, Cond.methodLinkNest cn_L 116 y_M_merge host ∈ xw_n := Or.inl (xw_in mw_988 rfl)
theorem ml_L_117 : Cond.methodLink cn_L 117 y_S_result ∈ xw_g ∨ ∃ host : String, Cond.methodLinkNest cn_L 117 y_S_result host ∈ xw_n := Or.inl (xw_in mw_369 rfl)
theorem ml_L_120 : Cond.methodLink cn_L 120 y_M_result ∈ xw_g ∨ ∃ host : String, Cond.methodLinkNest cn_L 120 y_M_result host ∈ xw_n := Or.inl (xw_in mw_992 rfl)
theorem ml_L_121 : Cond.methodLink cn_L 121 y_S_byteAt ∈ xw_g ∨ ∃ host : String, Cond.methodLinkNest cn_L 121 y_S_byteAt host ∈ xw_n := Or.inl (xw_in mw_376 rfl)
theorem ml_L_124 : Cond.methodLink cn_L 124 y_M_byteAt ∈ xw_g ∨ ∃ host : String, Cond.methodLinkNest cn_L 124 y_M_byteAt host ∈ xw_n := Or.inl (xw_in mw_996 rfl)
theorem ml_L_125 : Cond.methodLink cn_L 125 y_S_run ∈ xw_g ∨ ∃ host : String, Cond.methodLinkNest cn_L 125 y_S_run host ∈ xw_n := Or.inl (xw_in mw_383 rfl)
theorem ml_L_128 : Cond.methodLink cn_L 128 y_M_run ∈ xw_g ∨ ∃ host : String, Cond.methodLinkNest cn_L 128 y_M_run host ∈ xw_n := Or.inl (xw_in mw_1000 rfl)
theorem ml_L_129 : Cond.methodLink "LineSorterLaw" 129 y_L_about ∈ xw_g := xw_in mw_686 rfl
theorem ml_L_131 : Cond.methodLink cn_L 131 y_M_about ∈ xw_g ∨ ∃ host : String, Cond.methodLinkNest cn_L 131 y_M_about host ∈ xw_n := Or.inl (xw_in mw_1004 rfl)
theorem ml_J_304 : Cond.methodLink "java/util/Arrays" 304 ⟨"java/lang/Math", "min", "(II)I"⟩ ∈ xw_g := xw_in mw_481 rfl
theorem ml_J_150 : Cond.methodLink "java/util/Arrays" 150 ⟨"java/lang/System", "arraycopy", "(Ljava/lang/Object;ILjava/lang/Object;II)V"⟩ ∈ xw_g := xw_in mw_482 rfl
theorem mt_S_init : xx_mt m_S_init 0 := ⟨xw_in mw_26 rfl, xw_in mw_1 rfl, by decide, by decide, by decide +kernel⟩
theorem mi_S_init : Cond.instanceMethod y_S_init ∈ xw_g := xw_in mw_25 rfl
theorem mt_S_feed : xx_mt m_S_feed 5 := ⟨xw_in mw_394 rfl, xw_in mw_1 rfl, by decide, by decide, by decide +kernel⟩
theorem mi_S_feed : Cond.instanceMethod y_S_feed ∈ xw_g ∧ Cond.selects (y_S_feed).cls y_S_feed y_S_feed ∈ xw_g := ⟨xw_in mw_392 rfl, xw_in mw_393 rfl⟩
theorem mt_S_end : xx_mt m_S_end 1 := ⟨xw_in mw_500 rfl, xw_in mw_1 rfl, by decide, by decide, by decide +kernel⟩
theorem mi_S_end : Cond.instanceMethod y_S_end ∈ xw_g ∧ Cond.selects (y_S_end).cls y_S_end y_S_end ∈ xw_g := ⟨xw_in mw_498 rfl, xw_in mw_499 rfl⟩
theorem mt_S_ways : xx_mt m_S_ways 3 := ⟨xw_in mw_527 rfl, xw_in mw_1 rfl, by decide, by decide, by decide +kernel⟩
theorem mi_S_ways : Cond.instanceMethod y_S_ways ∈ xw_g ∧ Cond.selects (y_S_ways).cls y_S_ways y_S_ways ∈ xw_g := ⟨xw_in mw_525 rfl, xw_in mw_526 rfl⟩
theorem mt_S_separator : xx_mt m_S_separator 1 := ⟨xw_in mw_535 rfl, xw_in mw_1 rfl, by decide, by decide, by decide +kernel⟩
theorem mi_S_separator : Cond.instanceMethod y_S_separator ∈ xw_g ∧ Cond.selects (y_S_separator).cls y_S_separator y_S_separator ∈ xw_g := ⟨xw_in mw_533 rfl, xw_in mw_534 rfl⟩
theorem mt_S_key : xx_mt m_S_key 5 := ⟨xw_in mw_544 rfl, xw_in mw_1 rfl, by decide, by decide, by decide +kernel⟩
theorem mi_S_key : Cond.instanceMethod y_S_key ∈ xw_g ∧ Cond.selects (y_S_key).cls y_S_key y_S_key ∈ xw_g := ⟨xw_in mw_542 rfl, xw_in mw_543 rfl⟩
theorem mt_S_keyless : xx_mt m_S_keyless 0 := ⟨xw_in mw_262 rfl, xw_in mw_1 rfl, by decide, by decide, by decide +kernel⟩
theorem mi_S_keyless : Cond.instanceMethod y_S_keyless ∈ xw_g ∧ Cond.selects (y_S_keyless).cls y_S_keyless y_S_keyless ∈ xw_g := ⟨xw_in mw_260 rfl, xw_in mw_261 rfl⟩
theorem mt_S_memory : xx_mt m_S_memory 2 := ⟨xw_in mw_574 rfl, xw_in mw_1 rfl, by decide, by decide, by decide +kernel⟩
theorem mi_S_memory : Cond.instanceMethod y_S_memory ∈ xw_g ∧ Cond.selects (y_S_memory).cls y_S_memory y_S_memory ∈ xw_g := ⟨xw_in mw_572 rfl, xw_in mw_573 rfl⟩
theorem mt_S_lines : xx_mt m_S_lines 0 := ⟨xw_in mw_266 rfl, xw_in mw_1 rfl, by decide, by decide, by decide +kernel⟩
theorem mi_S_lines : Cond.instanceMethod y_S_lines ∈ xw_g ∧ Cond.selects (y_S_lines).cls y_S_lines y_S_lines ∈ xw_g := ⟨xw_in mw_264 rfl, xw_in mw_265 rfl⟩
theorem mt_S_place : xx_mt m_S_place 3 := ⟨xw_in mw_583 rfl, xw_in mw_1 rfl, by decide, by decide, by decide +kernel⟩
theorem mi_S_place : Cond.instanceMethod y_S_place ∈ xw_g ∧ Cond.selects (y_S_place).cls y_S_place y_S_place ∈ xw_g := ⟨xw_in mw_581 rfl, xw_in mw_582 rfl⟩
theorem mt_S_compare : xx_mt m_S_compare 2 := ⟨xw_in mw_615 rfl, xw_in mw_1 rfl, by decide, by decide, by decide +kernel⟩
theorem mi_S_compare : Cond.instanceMethod y_S_compare ∈ xw_g ∧ Cond.selects (y_S_compare).cls y_S_compare y_S_compare ∈ xw_g := ⟨xw_in mw_613 rfl, xw_in mw_614 rfl⟩
theorem mt_S_sort : xx_mt m_S_sort 0 := ⟨xw_in mw_624 rfl, xw_in mw_1 rfl, by decide, by decide, by decide +kernel⟩
theorem mi_S_sort : Cond.instanceMethod y_S_sort ∈ xw_g ∧ Cond.selects (y_S_sort).cls y_S_sort y_S_sort ∈ xw_g := ⟨xw_in mw_622 rfl, xw_in mw_623 rfl⟩
theorem mt_S_check : xx_mt m_S_check 0 := ⟨xw_in mw_278 rfl, xw_in mw_1 rfl, by decide, by decide, by decide +kernel⟩
theorem mi_S_check : Cond.instanceMethod y_S_check ∈ xw_g ∧ Cond.selects (y_S_check).cls y_S_check y_S_check ∈ xw_g := ⟨xw_in mw_276 rfl, xw_in mw_277 rfl⟩
theorem mt_S_merge : xx_mt m_S_merge 1 := ⟨xw_in mw_680 rfl, xw_in mw_1 rfl, by decide, by decide, by decide +kernel⟩
theorem mi_S_merge : Cond.instanceMethod y_S_merge ∈ xw_g ∧ Cond.selects (y_S_merge).cls y_S_merge y_S_merge ∈ xw_g := ⟨xw_in mw_678 rfl, xw_in mw_679 rfl⟩
theorem mt_S_result : xx_mt m_S_result 1 := ⟨xw_in mw_372 rfl, xw_in mw_1 rfl, by decide, by decide, by decide +kernel⟩
theorem mi_S_result : Cond.instanceMethod y_S_result ∈ xw_g ∧ Cond.selects (y_S_result).cls y_S_result y_S_result ∈ xw_g := ⟨xw_in mw_370 rfl, xw_in mw_371 rfl⟩
theorem mt_S_byteAt : xx_mt m_S_byteAt 2 := ⟨xw_in mw_379 rfl, xw_in mw_1 rfl, by decide, by decide, by decide +kernel⟩
theorem mi_S_byteAt : Cond.instanceMethod y_S_byteAt ∈ xw_g ∧ Cond.selects (y_S_byteAt).cls y_S_byteAt y_S_byteAt ∈ xw_g := ⟨xw_in mw_377 rfl, xw_in mw_378 rfl⟩
theorem mt_S_run : xx_mt m_S_run 1 := ⟨xw_in mw_386 rfl, xw_in mw_1 rfl, by decide, by decide, by decide +kernel⟩
theorem mi_S_run : Cond.instanceMethod y_S_run ∈ xw_g ∧ Cond.selects (y_S_run).cls y_S_run y_S_run ∈ xw_g := ⟨xw_in mw_384 rfl, xw_in mw_385 rfl⟩
theorem mt_S_about : xx_mt m_S_about 1 := ⟨xw_in mw_692 rfl, xw_in mw_1 rfl, by decide, by decide, by decide +kernel⟩
theorem mi_S_about : Cond.instanceMethod y_S_about ∈ xw_g ∧ Cond.selects (y_S_about).cls y_S_about y_S_about ∈ xw_g := ⟨xw_in mw_690 rfl, xw_in mw_691 rfl⟩
theorem mt_S_isLine : xx_mt m_S_isLine 1 := ⟨xw_in mw_587 rfl, xw_in mw_1 rfl, by decide, by decide, by decide +kernel⟩
theorem mi_S_isLine : Cond.instanceMethod y_S_isLine ∈ xw_g ∧ Cond.selects (y_S_isLine).cls y_S_isLine y_S_isLine ∈ xw_g := ⟨xw_in mw_586 rfl, xw_in (pv_S_isLine) rfl⟩
theorem mt_S_addToResult : xx_mt m_S_addToResult 1 := ⟨xw_in mw_673 rfl, xw_in mw_1 rfl, by decide, by decide, by decide +kernel⟩
theorem mi_S_addToResult : Cond.instanceMethod y_S_addToResult ∈ xw_g ∧ Cond.selects (y_S_addToResult).cls y_S_addToResult y_S_addToResult ∈ xw_g := ⟨xw_in mw_672 rfl, xw_in (pv_S_addToResult) rfl⟩
theorem mt_S_isWithin : xx_mt m_S_isWithin 3 := ⟨xw_in mw_375 rfl, xw_in mw_1 rfl, by decide, by decide, by decide +kernel⟩
theorem ms_S_isWithin : Cond.static y_S_isWithin ∈ xw_g := xw_in mw_374 rfl
theorem mt_M_init : xx_mt m_M_init 0 := ⟨xw_in mw_698 rfl, xw_in mw_10 rfl, by decide, by decide, by decide +kernel⟩
theorem mi_M_init : Cond.instanceMethod y_M_init ∈ xw_g := xw_in mw_697 rfl
theorem mt_M_thrown : xx_mt m_M_thrown 0 := ⟨xw_in mw_800 rfl, xw_in mw_10 rfl, by decide, by decide, by decide +kernel⟩
theorem mi_M_thrown : Cond.instanceMethod y_M_thrown ∈ xw_g ∧ Cond.selects (y_M_thrown).cls y_M_thrown y_M_thrown ∈ xw_g := ⟨xw_in mw_798 rfl, xw_in mw_799 rfl⟩
theorem mt_M_fails : xx_mt m_M_fails 2 := ⟨xw_in mw_808 rfl, xw_in mw_10 rfl, by decide, by decide, by decide +kernel⟩
theorem mi_M_fails : Cond.instanceMethod y_M_fails ∈ xw_g ∧ Cond.selects (y_M_fails).cls y_M_fails y_M_fails ∈ xw_g := ⟨xw_in mw_807 rfl, xw_in (pv_M_fails) rfl⟩
theorem mt_M_change : xx_mt m_M_change 1 := ⟨xw_in mw_812 rfl, xw_in mw_10 rfl, by decide, by decide, by decide +kernel⟩
theorem mi_M_change : Cond.instanceMethod y_M_change ∈ xw_g ∧ Cond.selects (y_M_change).cls y_M_change y_M_change ∈ xw_g := ⟨xw_in mw_811 rfl, xw_in (pv_M_change) rfl⟩
theorem mt_M_feed : xx_mt m_M_feed 5 := ⟨xw_in mw_804 rfl, xw_in mw_10 rfl, by decide, by decide, by decide +kernel⟩
theorem mi_M_feed : Cond.instanceMethod y_M_feed ∈ xw_g ∧ Cond.selects (y_M_feed).cls y_M_feed y_M_feed ∈ xw_g := ⟨xw_in mw_802 rfl, xw_in mw_803 rfl⟩
theorem mt_M_end : xx_mt m_M_end 1 := ⟨xw_in mw_816 rfl, xw_in mw_10 rfl, by decide, by decide, by decide +kernel⟩
theorem mi_M_end : Cond.instanceMethod y_M_end ∈ xw_g ∧ Cond.selects (y_M_end).cls y_M_end y_M_end ∈ xw_g := ⟨xw_in mw_814 rfl, xw_in mw_815 rfl⟩
theorem mt_M_findLines : xx_mt m_M_findLines 0 := ⟨xw_in mw_847 rfl, xw_in mw_10 rfl, by decide, by decide, by decide +kernel⟩
theorem mi_M_findLines : Cond.instanceMethod y_M_findLines ∈ xw_g ∧ Cond.selects (y_M_findLines).cls y_M_findLines y_M_findLines ∈ xw_g := ⟨xw_in mw_846 rfl, xw_in (pv_M_findLines) rfl⟩
theorem mt_M_startOf : xx_mt m_M_startOf 1 := ⟨xw_in mw_875 rfl, xw_in mw_10 rfl, by decide, by decide, by decide +kernel⟩
theorem mi_M_startOf : Cond.instanceMethod y_M_startOf ∈ xw_g ∧ Cond.selects (y_M_startOf).cls y_M_startOf y_M_startOf ∈ xw_g := ⟨xw_in mw_874 rfl, xw_in (pv_M_startOf) rfl⟩
theorem mt_M_endOf : xx_mt m_M_endOf 1 := ⟨xw_in mw_863 rfl, xw_in mw_10 rfl, by decide, by decide, by decide +kernel⟩
theorem mi_M_endOf : Cond.instanceMethod y_M_endOf ∈ xw_g ∧ Cond.selects (y_M_endOf).cls y_M_endOf y_M_endOf ∈ xw_g := ⟨xw_in mw_862 rfl, xw_in (pv_M_endOf) rfl⟩
theorem mt_M_within : xx_mt m_M_within 3 := ⟨xw_in mw_823 rfl, xw_in mw_10 rfl, by decide, by decide, by decide +kernel⟩
theorem ms_M_within : Cond.static y_M_within ∈ xw_g := xw_in mw_822 rfl
theorem mt_M_ways : xx_mt m_M_ways 3 := ⟨xw_in mw_820 rfl, xw_in mw_10 rfl, by decide, by decide, by decide +kernel⟩
theorem mi_M_ways : Cond.instanceMethod y_M_ways ∈ xw_g ∧ Cond.selects (y_M_ways).cls y_M_ways y_M_ways ∈ xw_g := ⟨xw_in mw_818 rfl, xw_in mw_819 rfl⟩
theorem mt_M_separator : xx_mt m_M_separator 1 := ⟨xw_in mw_827 rfl, xw_in mw_10 rfl, by decide, by decide, by decide +kernel⟩
theorem mi_M_separator : Cond.instanceMethod y_M_separator ∈ xw_g ∧ Cond.selects (y_M_separator).cls y_M_separator y_M_separator ∈ xw_g := ⟨xw_in mw_825 rfl, xw_in mw_826 rfl⟩
theorem mt_M_key : xx_mt m_M_key 5 := ⟨xw_in mw_831 rfl, xw_in mw_10 rfl, by decide, by decide, by decide +kernel⟩
theorem mi_M_key : Cond.instanceMethod y_M_key ∈ xw_g ∧ Cond.selects (y_M_key).cls y_M_key y_M_key ∈ xw_g := ⟨xw_in mw_829 rfl, xw_in mw_830 rfl⟩
theorem mt_M_keyless : xx_mt m_M_keyless 0 := ⟨xw_in mw_835 rfl, xw_in mw_10 rfl, by decide, by decide, by decide +kernel⟩
theorem mi_M_keyless : Cond.instanceMethod y_M_keyless ∈ xw_g ∧ Cond.selects (y_M_keyless).cls y_M_keyless y_M_keyless ∈ xw_g := ⟨xw_in mw_833 rfl, xw_in mw_834 rfl⟩
theorem mt_M_memory : xx_mt m_M_memory 2 := ⟨xw_in mw_839 rfl, xw_in mw_10 rfl, by decide, by decide, by decide +kernel⟩
theorem mi_M_memory : Cond.instanceMethod y_M_memory ∈ xw_g ∧ Cond.selects (y_M_memory).cls y_M_memory y_M_memory ∈ xw_g := ⟨xw_in mw_837 rfl, xw_in mw_838 rfl⟩
theorem mt_M_keysThere : xx_mt m_M_keysThere 0 := ⟨xw_in mw_855 rfl, xw_in mw_10 rfl, by decide, by decide, by decide +kernel⟩
theorem mi_M_keysThere : Cond.instanceMethod y_M_keysThere ∈ xw_g ∧ Cond.selects (y_M_keysThere).cls y_M_keysThere y_M_keysThere ∈ xw_g := ⟨xw_in mw_854 rfl, xw_in (pv_M_keysThere) rfl⟩
theorem mt_M_keyOf : xx_mt m_M_keyOf 2 := ⟨xw_in mw_867 rfl, xw_in mw_10 rfl, by decide, by decide, by decide +kernel⟩
theorem mi_M_keyOf : Cond.instanceMethod y_M_keyOf ∈ xw_g ∧ Cond.selects (y_M_keyOf).cls y_M_keyOf y_M_keyOf ∈ xw_g := ⟨xw_in mw_866 rfl, xw_in (pv_M_keyOf) rfl⟩
theorem mt_M_isBlank : xx_mt m_M_isBlank 1 := ⟨xw_in mw_879 rfl, xw_in mw_10 rfl, by decide, by decide, by decide +kernel⟩
theorem mi_M_isBlank : Cond.instanceMethod y_M_isBlank ∈ xw_g ∧ Cond.selects (y_M_isBlank).cls y_M_isBlank y_M_isBlank ∈ xw_g := ⟨xw_in mw_878 rfl, xw_in (pv_M_isBlank) rfl⟩
theorem mt_M_find : xx_mt m_M_find 2 := ⟨xw_in mw_871 rfl, xw_in mw_10 rfl, by decide, by decide, by decide +kernel⟩
theorem mi_M_find : Cond.instanceMethod y_M_find ∈ xw_g ∧ Cond.selects (y_M_find).cls y_M_find y_M_find ∈ xw_g := ⟨xw_in mw_870 rfl, xw_in (pv_M_find) rfl⟩
theorem mt_M_begin : xx_mt m_M_begin 2 := ⟨xw_in mw_883 rfl, xw_in mw_10 rfl, by decide, by decide, by decide +kernel⟩
theorem mi_M_begin : Cond.instanceMethod y_M_begin ∈ xw_g ∧ Cond.selects (y_M_begin).cls y_M_begin y_M_begin ∈ xw_g := ⟨xw_in mw_882 rfl, xw_in (pv_M_begin) rfl⟩
theorem mt_M_keyBegin : xx_mt m_M_keyBegin 2 := ⟨xw_in mw_887 rfl, xw_in mw_10 rfl, by decide, by decide, by decide +kernel⟩
theorem mi_M_keyBegin : Cond.instanceMethod y_M_keyBegin ∈ xw_g ∧ Cond.selects (y_M_keyBegin).cls y_M_keyBegin y_M_keyBegin ∈ xw_g := ⟨xw_in mw_886 rfl, xw_in (pv_M_keyBegin) rfl⟩
theorem mt_M_keyEnd : xx_mt m_M_keyEnd 2 := ⟨xw_in mw_859 rfl, xw_in mw_10 rfl, by decide, by decide, by decide +kernel⟩
theorem mi_M_keyEnd : Cond.instanceMethod y_M_keyEnd ∈ xw_g ∧ Cond.selects (y_M_keyEnd).cls y_M_keyEnd y_M_keyEnd ∈ xw_g := ⟨xw_in mw_858 rfl, xw_in (pv_M_keyEnd) rfl⟩
theorem mt_M_from : xx_mt m_M_from 2 := ⟨xw_in mw_899 rfl, xw_in mw_10 rfl, by decide, by decide, by decide +kernel⟩
theorem mi_M_from : Cond.instanceMethod y_M_from ∈ xw_g ∧ Cond.selects (y_M_from).cls y_M_from y_M_from ∈ xw_g := ⟨xw_in mw_898 rfl, xw_in (pv_M_from) rfl⟩
theorem mt_M_to : xx_mt m_M_to 2 := ⟨xw_in mw_903 rfl, xw_in mw_10 rfl, by decide, by decide, by decide +kernel⟩
theorem mi_M_to : Cond.instanceMethod y_M_to ∈ xw_g ∧ Cond.selects (y_M_to).cls y_M_to y_M_to ∈ xw_g := ⟨xw_in mw_902 rfl, xw_in (pv_M_to) rfl⟩
theorem mt_M_counts : xx_mt m_M_counts 2 := ⟨xw_in mw_951 rfl, xw_in mw_10 rfl, by decide, by decide, by decide +kernel⟩
theorem mi_M_counts : Cond.instanceMethod y_M_counts ∈ xw_g ∧ Cond.selects (y_M_counts).cls y_M_counts y_M_counts ∈ xw_g := ⟨xw_in mw_950 rfl, xw_in (pv_M_counts) rfl⟩
theorem mt_M_folded : xx_mt m_M_folded 2 := ⟨xw_in mw_955 rfl, xw_in mw_10 rfl, by decide, by decide, by decide +kernel⟩
theorem mi_M_folded : Cond.instanceMethod y_M_folded ∈ xw_g ∧ Cond.selects (y_M_folded).cls y_M_folded y_M_folded ∈ xw_g := ⟨xw_in mw_954 rfl, xw_in (pv_M_folded) rfl⟩
theorem mt_M_bytes : xx_mt m_M_bytes 5 := ⟨xw_in mw_947 rfl, xw_in mw_10 rfl, by decide, by decide, by decide +kernel⟩
theorem mi_M_bytes : Cond.instanceMethod y_M_bytes ∈ xw_g ∧ Cond.selects (y_M_bytes).cls y_M_bytes y_M_bytes ∈ xw_g := ⟨xw_in mw_946 rfl, xw_in (pv_M_bytes) rfl⟩
theorem mt_M_isDigit : xx_mt m_M_isDigit 2 := ⟨xw_in mw_931 rfl, xw_in mw_10 rfl, by decide, by decide, by decide +kernel⟩
theorem mi_M_isDigit : Cond.instanceMethod y_M_isDigit ∈ xw_g ∧ Cond.selects (y_M_isDigit).cls y_M_isDigit y_M_isDigit ∈ xw_g := ⟨xw_in mw_930 rfl, xw_in (pv_M_isDigit) rfl⟩
theorem mt_M_behindBlanks : xx_mt m_M_behindBlanks 2 := ⟨xw_in mw_919 rfl, xw_in mw_10 rfl, by decide, by decide, by decide +kernel⟩
theorem mi_M_behindBlanks : Cond.instanceMethod y_M_behindBlanks ∈ xw_g ∧ Cond.selects (y_M_behindBlanks).cls y_M_behindBlanks y_M_behindBlanks ∈ xw_g := ⟨xw_in mw_918 rfl, xw_in (pv_M_behindBlanks) rfl⟩
theorem mt_M_isMinus : xx_mt m_M_isMinus 2 := ⟨xw_in mw_923 rfl, xw_in mw_10 rfl, by decide, by decide, by decide +kernel⟩
theorem mi_M_isMinus : Cond.instanceMethod y_M_isMinus ∈ xw_g ∧ Cond.selects (y_M_isMinus).cls y_M_isMinus y_M_isMinus ∈ xw_g := ⟨xw_in mw_922 rfl, xw_in (pv_M_isMinus) rfl⟩
theorem mt_M_wholeAt : xx_mt m_M_wholeAt 2 := ⟨xw_in mw_915 rfl, xw_in mw_10 rfl, by decide, by decide, by decide +kernel⟩
theorem mi_M_wholeAt : Cond.instanceMethod y_M_wholeAt ∈ xw_g ∧ Cond.selects (y_M_wholeAt).cls y_M_wholeAt y_M_wholeAt ∈ xw_g := ⟨xw_in mw_914 rfl, xw_in (pv_M_wholeAt) rfl⟩
theorem mt_M_behindDigits : xx_mt m_M_behindDigits 2 := ⟨xw_in mw_939 rfl, xw_in mw_10 rfl, by decide, by decide, by decide +kernel⟩
theorem mi_M_behindDigits : Cond.instanceMethod y_M_behindDigits ∈ xw_g ∧ Cond.selects (y_M_behindDigits).cls y_M_behindDigits y_M_behindDigits ∈ xw_g := ⟨xw_in mw_938 rfl, xw_in (pv_M_behindDigits) rfl⟩
theorem mt_M_partAt : xx_mt m_M_partAt 2 := ⟨xw_in mw_935 rfl, xw_in mw_10 rfl, by decide, by decide, by decide +kernel⟩
theorem mi_M_partAt : Cond.instanceMethod y_M_partAt ∈ xw_g ∧ Cond.selects (y_M_partAt).cls y_M_partAt y_M_partAt ∈ xw_g := ⟨xw_in mw_934 rfl, xw_in (pv_M_partAt) rfl⟩
theorem mt_M_sizes : xx_mt m_M_sizes 4 := ⟨xw_in mw_943 rfl, xw_in mw_10 rfl, by decide, by decide, by decide +kernel⟩
theorem mi_M_sizes : Cond.instanceMethod y_M_sizes ∈ xw_g ∧ Cond.selects (y_M_sizes).cls y_M_sizes y_M_sizes ∈ xw_g := ⟨xw_in mw_942 rfl, xw_in (pv_M_sizes) rfl⟩
theorem mt_M_isZero : xx_mt m_M_isZero 2 := ⟨xw_in mw_927 rfl, xw_in mw_10 rfl, by decide, by decide, by decide +kernel⟩
theorem mi_M_isZero : Cond.instanceMethod y_M_isZero ∈ xw_g ∧ Cond.selects (y_M_isZero).cls y_M_isZero y_M_isZero ∈ xw_g := ⟨xw_in mw_926 rfl, xw_in (pv_M_isZero) rfl⟩
theorem mt_M_sign : xx_mt m_M_sign 2 := ⟨xw_in mw_911 rfl, xw_in mw_10 rfl, by decide, by decide, by decide +kernel⟩
theorem mi_M_sign : Cond.instanceMethod y_M_sign ∈ xw_g ∧ Cond.selects (y_M_sign).cls y_M_sign y_M_sign ∈ xw_g := ⟨xw_in mw_910 rfl, xw_in (pv_M_sign) rfl⟩
theorem mt_M_numbers : xx_mt m_M_numbers 4 := ⟨xw_in mw_907 rfl, xw_in mw_10 rfl, by decide, by decide, by decide +kernel⟩
theorem mi_M_numbers : Cond.instanceMethod y_M_numbers ∈ xw_g ∧ Cond.selects (y_M_numbers).cls y_M_numbers y_M_numbers ∈ xw_g := ⟨xw_in mw_906 rfl, xw_in (pv_M_numbers) rfl⟩
theorem mt_M_byKeys : xx_mt m_M_byKeys 2 := ⟨xw_in mw_895 rfl, xw_in mw_10 rfl, by decide, by decide, by decide +kernel⟩
theorem mi_M_byKeys : Cond.instanceMethod y_M_byKeys ∈ xw_g ∧ Cond.selects (y_M_byKeys).cls y_M_byKeys y_M_byKeys ∈ xw_g := ⟨xw_in mw_894 rfl, xw_in (pv_M_byKeys) rfl⟩
theorem mt_M_byAll : xx_mt m_M_byAll 2 := ⟨xw_in mw_975 rfl, xw_in mw_10 rfl, by decide, by decide, by decide +kernel⟩
theorem mi_M_byAll : Cond.instanceMethod y_M_byAll ∈ xw_g ∧ Cond.selects (y_M_byAll).cls y_M_byAll y_M_byAll ∈ xw_g := ⟨xw_in mw_974 rfl, xw_in (pv_M_byAll) rfl⟩
theorem mt_M_isBefore : xx_mt m_M_isBefore 2 := ⟨xw_in mw_971 rfl, xw_in mw_10 rfl, by decide, by decide, by decide +kernel⟩
theorem mi_M_isBefore : Cond.instanceMethod y_M_isBefore ∈ xw_g ∧ Cond.selects (y_M_isBefore).cls y_M_isBefore y_M_isBefore ∈ xw_g := ⟨xw_in mw_970 rfl, xw_in (pv_M_isBefore) rfl⟩
theorem mt_M_lines : xx_mt m_M_lines 0 := ⟨xw_in mw_843 rfl, xw_in mw_10 rfl, by decide, by decide, by decide +kernel⟩
theorem mi_M_lines : Cond.instanceMethod y_M_lines ∈ xw_g ∧ Cond.selects (y_M_lines).cls y_M_lines y_M_lines ∈ xw_g := ⟨xw_in mw_841 rfl, xw_in mw_842 rfl⟩
theorem mt_M_place : xx_mt m_M_place 3 := ⟨xw_in mw_851 rfl, xw_in mw_10 rfl, by decide, by decide, by decide +kernel⟩
theorem mi_M_place : Cond.instanceMethod y_M_place ∈ xw_g ∧ Cond.selects (y_M_place).cls y_M_place y_M_place ∈ xw_g := ⟨xw_in mw_849 rfl, xw_in mw_850 rfl⟩
theorem mt_M_compare : xx_mt m_M_compare 2 := ⟨xw_in mw_891 rfl, xw_in mw_10 rfl, by decide, by decide, by decide +kernel⟩
theorem mi_M_compare : Cond.instanceMethod y_M_compare ∈ xw_g ∧ Cond.selects (y_M_compare).cls y_M_compare y_M_compare ∈ xw_g := ⟨xw_in mw_889 rfl, xw_in mw_890 rfl⟩
theorem mt_M_hold : xx_mt m_M_hold 0 := ⟨xw_in mw_963 rfl, xw_in mw_10 rfl, by decide, by decide, by decide +kernel⟩
theorem mi_M_hold : Cond.instanceMethod y_M_hold ∈ xw_g ∧ Cond.selects (y_M_hold).cls y_M_hold y_M_hold ∈ xw_g := ⟨xw_in mw_962 rfl, xw_in (pv_M_hold) rfl⟩
theorem mt_M_makeRuns : xx_mt m_M_makeRuns 0 := ⟨xw_in mw_967 rfl, xw_in mw_10 rfl, by decide, by decide, by decide +kernel⟩
theorem mi_M_makeRuns : Cond.instanceMethod y_M_makeRuns ∈ xw_g ∧ Cond.selects (y_M_makeRuns).cls y_M_makeRuns y_M_makeRuns ∈ xw_g := ⟨xw_in mw_966 rfl, xw_in (pv_M_makeRuns) rfl⟩
theorem mt_M_mergeFirst : xx_mt m_M_mergeFirst 0 := ⟨xw_in mw_979 rfl, xw_in mw_10 rfl, by decide, by decide, by decide +kernel⟩
theorem mi_M_mergeFirst : Cond.instanceMethod y_M_mergeFirst ∈ xw_g ∧ Cond.selects (y_M_mergeFirst).cls y_M_mergeFirst y_M_mergeFirst ∈ xw_g := ⟨xw_in mw_978 rfl, xw_in (pv_M_mergeFirst) rfl⟩
theorem mt_M_headOf : xx_mt m_M_headOf 1 := ⟨xw_in mw_983 rfl, xw_in mw_10 rfl, by decide, by decide, by decide +kernel⟩
theorem mi_M_headOf : Cond.instanceMethod y_M_headOf ∈ xw_g ∧ Cond.selects (y_M_headOf).cls y_M_headOf y_M_headOf ∈ xw_g := ⟨xw_in mw_982 rfl, xw_in (pv_M_headOf) rfl⟩
theorem mt_M_sort : xx_mt m_M_sort 0 := ⟨xw_in mw_959 rfl, xw_in mw_10 rfl, by decide, by decide, by decide +kernel⟩
theorem mi_M_sort : Cond.instanceMethod y_M_sort ∈ xw_g ∧ Cond.selects (y_M_sort).cls y_M_sort y_M_sort ∈ xw_g := ⟨xw_in mw_957 rfl, xw_in mw_958 rfl⟩
theorem mt_M_check : xx_mt m_M_check 0 := ⟨xw_in mw_987 rfl, xw_in mw_10 rfl, by decide, by decide, by decide +kernel⟩
theorem mi_M_check : Cond.instanceMethod y_M_check ∈ xw_g ∧ Cond.selects (y_M_check).cls y_M_check y_M_check ∈ xw_g := ⟨xw_in mw_985 rfl, xw_in mw_986 rfl⟩
theorem mt_M_merge : xx_mt m_M_merge 1 := ⟨xw_in mw_991 rfl, xw_in mw_10 rfl, by decide, by decide, by decide +kernel⟩
theorem mi_M_merge : Cond.instanceMethod y_M_merge ∈ xw_g ∧ Cond.selects (y_M_merge).cls y_M_merge y_M_merge ∈ xw_g := ⟨xw_in mw_989 rfl, xw_in mw_990 rfl⟩
theorem mt_M_result : xx_mt m_M_result 1 := ⟨xw_in mw_995 rfl, xw_in mw_10 rfl, by decide, by decide, by decide +kernel⟩
theorem mi_M_result : Cond.instanceMethod y_M_result ∈ xw_g ∧ Cond.selects (y_M_result).cls y_M_result y_M_result ∈ xw_g := ⟨xw_in mw_993 rfl, xw_in mw_994 rfl⟩
theorem mt_M_byteAt : xx_mt m_M_byteAt 2 := ⟨xw_in mw_999 rfl, xw_in mw_10 rfl, by decide, by decide, by decide +kernel⟩
theorem mi_M_byteAt : Cond.instanceMethod y_M_byteAt ∈ xw_g ∧ Cond.selects (y_M_byteAt).cls y_M_byteAt y_M_byteAt ∈ xw_g := ⟨xw_in mw_997 rfl, xw_in mw_998 rfl⟩
theorem mt_M_run : xx_mt m_M_run 1 := ⟨xw_in mw_1003 rfl, xw_in mw_10 rfl, by decide, by decide, by decide +kernel⟩
theorem mi_M_run : Cond.instanceMethod y_M_run ∈ xw_g ∧ Cond.selects (y_M_run).cls y_M_run y_M_run ∈ xw_g := ⟨xw_in mw_1001 rfl, xw_in mw_1002 rfl⟩
theorem mt_M_about : xx_mt m_M_about 1 := ⟨xw_in mw_1007 rfl, xw_in mw_10 rfl, by decide, by decide, by decide +kernel⟩
theorem mi_M_about : Cond.instanceMethod y_M_about ∈ xw_g ∧ Cond.selects (y_M_about).cls y_M_about y_M_about ∈ xw_g := ⟨xw_in mw_1005 rfl, xw_in mw_1006 rfl⟩
theorem mt_H_init : xx_mt m_H_init 0 := ⟨xw_in mw_183 rfl, xw_in mw_8 rfl, by decide, by decide, by decide +kernel⟩
theorem mi_H_init : Cond.instanceMethod y_H_init ∈ xw_g := xw_in mw_182 rfl
theorem mt_H_clear : xx_mt m_H_clear 0 := ⟨xw_in mw_640 rfl, xw_in mw_8 rfl, by decide, by decide, by decide +kernel⟩
theorem mi_H_clear : Cond.instanceMethod y_H_clear ∈ xw_g ∧ Cond.selects (y_H_clear).cls y_H_clear y_H_clear ∈ xw_g := ⟨xw_in mw_638 rfl, xw_in mw_639 rfl⟩
theorem mt_H_put : xx_mt m_H_put 1 := ⟨xw_in mw_648 rfl, xw_in mw_8 rfl, by decide, by decide, by decide +kernel⟩
theorem mi_H_put : Cond.instanceMethod y_H_put ∈ xw_g ∧ Cond.selects (y_H_put).cls y_H_put y_H_put ∈ xw_g := ⟨xw_in mw_646 rfl, xw_in mw_647 rfl⟩
theorem mt_H_takeLeast : xx_mt m_H_takeLeast 0 := ⟨xw_in mw_652 rfl, xw_in mw_8 rfl, by decide, by decide, by decide +kernel⟩
theorem mi_H_takeLeast : Cond.instanceMethod y_H_takeLeast ∈ xw_g ∧ Cond.selects (y_H_takeLeast).cls y_H_takeLeast y_H_takeLeast ∈ xw_g := ⟨xw_in mw_650 rfl, xw_in mw_651 rfl⟩
theorem mt_H_sinkFromTop : xx_mt m_H_sinkFromTop 1 := ⟨xw_in mw_656 rfl, xw_in mw_8 rfl, by decide, by decide, by decide +kernel⟩
theorem mi_H_sinkFromTop : Cond.instanceMethod y_H_sinkFromTop ∈ xw_g ∧ Cond.selects (y_H_sinkFromTop).cls y_H_sinkFromTop y_H_sinkFromTop ∈ xw_g := ⟨xw_in mw_655 rfl, xw_in (pv_H_sinkFromTop) rfl⟩
theorem mt_K_init : xx_mt m_K_init 5 := ⟨xw_in mw_77 rfl, xw_in mw_5 rfl, by decide, by decide, by decide +kernel⟩
theorem mi_K_init : Cond.instanceMethod y_K_init ∈ xw_g := xw_in mw_76 rfl
theorem mt_N_init : xx_mt m_N_init 0 := ⟨xw_in mw_105 rfl, xw_in mw_6 rfl, by decide, by decide, by decide +kernel⟩
theorem mi_N_init : Cond.instanceMethod y_N_init ∈ xw_g := xw_in mw_104 rfl
theorem mt_N_read : xx_mt m_N_read 3 := ⟨xw_in mw_345 rfl, xw_in mw_6 rfl, by decide, by decide, by decide +kernel⟩
theorem mi_N_read : Cond.instanceMethod y_N_read ∈ xw_g ∧ Cond.selects (y_N_read).cls y_N_read y_N_read ∈ xw_g := ⟨xw_in mw_343 rfl, xw_in mw_344 rfl⟩
theorem mt_N_wholeLength : xx_mt m_N_wholeLength 0 := ⟨xw_in mw_358 rfl, xw_in mw_6 rfl, by decide, by decide, by decide +kernel⟩
theorem mi_N_wholeLength : Cond.instanceMethod y_N_wholeLength ∈ xw_g ∧ Cond.selects (y_N_wholeLength).cls y_N_wholeLength y_N_wholeLength ∈ xw_g := ⟨xw_in mw_356 rfl, xw_in mw_357 rfl⟩
theorem mt_O_init : xx_mt m_O_init 2 := ⟨xw_in mw_71 rfl, xw_in mw_4 rfl, by decide, by decide, by decide +kernel⟩
theorem mi_O_init : Cond.instanceMethod y_O_init ∈ xw_g := xw_in mw_70 rfl
theorem mt_O_addKey : xx_mt m_O_addKey 1 := ⟨xw_in mw_567 rfl, xw_in mw_4 rfl, by decide, by decide, by decide +kernel⟩
theorem mi_O_addKey : Cond.instanceMethod y_O_addKey ∈ xw_g ∧ Cond.selects (y_O_addKey).cls y_O_addKey y_O_addKey ∈ xw_g := ⟨xw_in mw_565 rfl, xw_in mw_566 rfl⟩
theorem mt_O_keysInUse : xx_mt m_O_keysInUse 0 := ⟨xw_in mw_290 rfl, xw_in mw_4 rfl, by decide, by decide, by decide +kernel⟩
theorem mi_O_keysInUse : Cond.instanceMethod y_O_keysInUse ∈ xw_g ∧ Cond.selects (y_O_keysInUse).cls y_O_keysInUse y_O_keysInUse ∈ xw_g := ⟨xw_in mw_288 rfl, xw_in mw_289 rfl⟩
theorem mt_O_keyInUse : xx_mt m_O_keyInUse 1 := ⟨xw_in mw_297 rfl, xw_in mw_4 rfl, by decide, by decide, by decide +kernel⟩
theorem mi_O_keyInUse : Cond.instanceMethod y_O_keyInUse ∈ xw_g ∧ Cond.selects (y_O_keyInUse).cls y_O_keyInUse y_O_keyInUse ∈ xw_g := ⟨xw_in mw_295 rfl, xw_in mw_296 rfl⟩
theorem mt_O_flagsOf : xx_mt m_O_flagsOf 1 := ⟨xw_in mw_301 rfl, xw_in mw_4 rfl, by decide, by decide, by decide +kernel⟩
theorem mi_O_flagsOf : Cond.instanceMethod y_O_flagsOf ∈ xw_g ∧ Cond.selects (y_O_flagsOf).cls y_O_flagsOf y_O_flagsOf ∈ xw_g := ⟨xw_in mw_299 rfl, xw_in mw_300 rfl⟩
theorem mt_O_comparedNumbersAside : xx_mt m_O_comparedNumbersAside 2 := ⟨xw_in mw_282 rfl, xw_in mw_4 rfl, by decide, by decide, by decide +kernel⟩
theorem mi_O_comparedNumbersAside : Cond.instanceMethod y_O_comparedNumbersAside ∈ xw_g ∧ Cond.selects (y_O_comparedNumbersAside).cls y_O_comparedNumbersAside y_O_comparedNumbersAside ∈ xw_g := ⟨xw_in mw_280 rfl, xw_in mw_281 rfl⟩
theorem mt_O_comparedByKeys : xx_mt m_O_comparedByKeys 2 := ⟨xw_in mw_286 rfl, xw_in mw_4 rfl, by decide, by decide, by decide +kernel⟩
theorem mi_O_comparedByKeys : Cond.instanceMethod y_O_comparedByKeys ∈ xw_g ∧ Cond.selects (y_O_comparedByKeys).cls y_O_comparedByKeys y_O_comparedByKeys ∈ xw_g := ⟨xw_in mw_284 rfl, xw_in mw_285 rfl⟩
theorem mt_O_comparedAsNumbers : xx_mt m_O_comparedAsNumbers 4 := ⟨xw_in mw_341 rfl, xw_in mw_4 rfl, by decide, by decide, by decide +kernel⟩
theorem mi_O_comparedAsNumbers : Cond.instanceMethod y_O_comparedAsNumbers ∈ xw_g ∧ Cond.selects (y_O_comparedAsNumbers).cls y_O_comparedAsNumbers y_O_comparedAsNumbers ∈ xw_g := ⟨xw_in mw_340 rfl, xw_in (pv_O_comparedAsNumbers) rfl⟩
theorem mt_P_init : xx_mt m_P_init 1 := ⟨xw_in mw_57 rfl, xw_in mw_3 rfl, by decide, by decide, by decide +kernel⟩
theorem mi_P_init : Cond.instanceMethod y_P_init ∈ xw_g := xw_in mw_56 rfl
theorem mt_P_beginOf : xx_mt m_P_beginOf 3 := ⟨xw_in mw_305 rfl, xw_in mw_3 rfl, by decide, by decide, by decide +kernel⟩
theorem mi_P_beginOf : Cond.instanceMethod y_P_beginOf ∈ xw_g ∧ Cond.selects (y_P_beginOf).cls y_P_beginOf y_P_beginOf ∈ xw_g := ⟨xw_in mw_303 rfl, xw_in mw_304 rfl⟩
theorem mt_P_endOf : xx_mt m_P_endOf 3 := ⟨xw_in mw_337 rfl, xw_in mw_3 rfl, by decide, by decide, by decide +kernel⟩
theorem mi_P_endOf : Cond.instanceMethod y_P_endOf ∈ xw_g ∧ Cond.selects (y_P_endOf).cls y_P_endOf y_P_endOf ∈ xw_g := ⟨xw_in mw_335 rfl, xw_in mw_336 rfl⟩
theorem mt_P_fieldStart : xx_mt m_P_fieldStart 3 := ⟨xw_in mw_314 rfl, xw_in mw_3 rfl, by decide, by decide, by decide +kernel⟩
theorem mi_P_fieldStart : Cond.instanceMethod y_P_fieldStart ∈ xw_g ∧ Cond.selects (y_P_fieldStart).cls y_P_fieldStart y_P_fieldStart ∈ xw_g := ⟨xw_in mw_313 rfl, xw_in (pv_P_fieldStart) rfl⟩
theorem mt_P_fieldStop : xx_mt m_P_fieldStop 2 := ⟨xw_in mw_318 rfl, xw_in mw_3 rfl, by decide, by decide, by decide +kernel⟩
theorem mi_P_fieldStop : Cond.instanceMethod y_P_fieldStop ∈ xw_g ∧ Cond.selects (y_P_fieldStop).cls y_P_fieldStop y_P_fieldStop ∈ xw_g := ⟨xw_in mw_317 rfl, xw_in (pv_P_fieldStop) rfl⟩
theorem mt_P_passBlanksOfField : xx_mt m_P_passBlanksOfField 2 := ⟨xw_in mw_322 rfl, xw_in mw_3 rfl, by decide, by decide, by decide +kernel⟩
theorem mi_P_passBlanksOfField : Cond.instanceMethod y_P_passBlanksOfField ∈ xw_g ∧ Cond.selects (y_P_passBlanksOfField).cls y_P_passBlanksOfField y_P_passBlanksOfField ∈ xw_g := ⟨xw_in mw_321 rfl, xw_in (pv_P_passBlanksOfField) rfl⟩
theorem mt_R_init : xx_mt m_R_init 1 := ⟨xw_in mw_167 rfl, xw_in mw_7 rfl, by decide, by decide, by decide +kernel⟩
theorem mi_R_init : Cond.instanceMethod y_R_init ∈ xw_g := xw_in mw_166 rfl
theorem mt_R_rankFirst : xx_mt m_R_rankFirst 1 := ⟨xw_in mw_629 rfl, xw_in mw_7 rfl, by decide, by decide, by decide +kernel⟩
theorem mi_R_rankFirst : Cond.instanceMethod y_R_rankFirst ∈ xw_g ∧ Cond.selects (y_R_rankFirst).cls y_R_rankFirst y_R_rankFirst ∈ xw_g := ⟨xw_in mw_627 rfl, xw_in mw_628 rfl⟩
theorem mt_R_rankOf : xx_mt m_R_rankOf 1 := ⟨xw_in mw_644 rfl, xw_in mw_7 rfl, by decide, by decide, by decide +kernel⟩
theorem mi_R_rankOf : Cond.instanceMethod y_R_rankOf ∈ xw_g ∧ Cond.selects (y_R_rankOf).cls y_R_rankOf y_R_rankOf ∈ xw_g := ⟨xw_in mw_642 rfl, xw_in mw_643 rfl⟩
theorem mt_R_lineAt : xx_mt m_R_lineAt 1 := ⟨xw_in mw_669 rfl, xw_in mw_7 rfl, by decide, by decide, by decide +kernel⟩
theorem mi_R_lineAt : Cond.instanceMethod y_R_lineAt ∈ xw_g ∧ Cond.selects (y_R_lineAt).cls y_R_lineAt y_R_lineAt ∈ xw_g := ⟨xw_in mw_667 rfl, xw_in mw_668 rfl⟩
theorem mt_U_init : xx_mt m_U_init 2 := ⟨xw_in mw_196 rfl, xw_in mw_9 rfl, by decide, by decide, by decide +kernel⟩
theorem mi_U_init : Cond.instanceMethod y_U_init ∈ xw_g := xw_in mw_195 rfl
theorem mt_U_makeRuns : xx_mt m_U_makeRuns 2 := ⟨xw_in mw_635 rfl, xw_in mw_9 rfl, by decide, by decide, by decide +kernel⟩
theorem mi_U_makeRuns : Cond.instanceMethod y_U_makeRuns ∈ xw_g ∧ Cond.selects (y_U_makeRuns).cls y_U_makeRuns y_U_makeRuns ∈ xw_g := ⟨xw_in mw_633 rfl, xw_in mw_634 rfl⟩
theorem mt_U_addLineToRun : xx_mt m_U_addLineToRun 1 := ⟨xw_in mw_660 rfl, xw_in mw_9 rfl, by decide, by decide, by decide +kernel⟩
theorem mi_U_addLineToRun : Cond.instanceMethod y_U_addLineToRun ∈ xw_g ∧ Cond.selects (y_U_addLineToRun).cls y_U_addLineToRun y_U_addLineToRun ∈ xw_g := ⟨xw_in mw_659 rfl, xw_in (pv_U_addLineToRun) rfl⟩
theorem mt_U_countMerges : xx_mt m_U_countMerges 1 := ⟨xw_in mw_664 rfl, xw_in mw_9 rfl, by decide, by decide, by decide +kernel⟩
theorem mi_U_countMerges : Cond.instanceMethod y_U_countMerges ∈ xw_g ∧ Cond.selects (y_U_countMerges).cls y_U_countMerges y_U_countMerges ∈ xw_g := ⟨xw_in mw_662 rfl, xw_in mw_663 rfl⟩
theorem mt_T_init : xx_mt m_T_init 0 := ⟨xw_in mw_34 rfl, xw_in mw_2 rfl, by decide, by decide, by decide +kernel⟩
theorem mi_T_init : Cond.instanceMethod y_T_init ∈ xw_g := xw_in mw_33 rfl
theorem mt_T_append : xx_mt m_T_append 1 := ⟨xw_in mw_466 rfl, xw_in mw_2 rfl, by decide, by decide, by decide +kernel⟩
theorem mi_T_append : Cond.instanceMethod y_T_append ∈ xw_g ∧ Cond.selects (y_T_append).cls y_T_append y_T_append ∈ xw_g := ⟨xw_in mw_464 rfl, xw_in mw_465 rfl⟩
theorem mt_T_makeRoom : xx_mt m_T_makeRoom 1 := ⟨xw_in mw_470 rfl, xw_in mw_2 rfl, by decide, by decide, by decide +kernel⟩
theorem mi_T_makeRoom : Cond.instanceMethod y_T_makeRoom ∈ xw_g ∧ Cond.selects (y_T_makeRoom).cls y_T_makeRoom y_T_makeRoom ∈ xw_g := ⟨xw_in mw_469 rfl, xw_in (pv_T_makeRoom) rfl⟩
theorem mt_T_keepFirst : xx_mt m_T_keepFirst 1 := ⟨xw_in mw_520 rfl, xw_in mw_2 rfl, by decide, by decide, by decide +kernel⟩
theorem mi_T_keepFirst : Cond.instanceMethod y_T_keepFirst ∈ xw_g ∧ Cond.selects (y_T_keepFirst).cls y_T_keepFirst y_T_keepFirst ∈ xw_g := ⟨xw_in mw_518 rfl, xw_in mw_519 rfl⟩
theorem mt_T_lineCount : xx_mt m_T_lineCount 0 := ⟨xw_in mw_270 rfl, xw_in mw_2 rfl, by decide, by decide, by decide +kernel⟩
theorem mi_T_lineCount : Cond.instanceMethod y_T_lineCount ∈ xw_g ∧ Cond.selects (y_T_lineCount).cls y_T_lineCount y_T_lineCount ∈ xw_g := ⟨xw_in mw_268 rfl, xw_in mw_269 rfl⟩
theorem mt_T_startOf : xx_mt m_T_startOf 1 := ⟨xw_in mw_274 rfl, xw_in mw_2 rfl, by decide, by decide, by decide +kernel⟩
theorem mi_T_startOf : Cond.instanceMethod y_T_startOf ∈ xw_g ∧ Cond.selects (y_T_startOf).cls y_T_startOf y_T_startOf ∈ xw_g := ⟨xw_in mw_272 rfl, xw_in mw_273 rfl⟩
theorem mt_T_stopOf : xx_mt m_T_stopOf 1 := ⟨xw_in mw_309 rfl, xw_in mw_2 rfl, by decide, by decide, by decide +kernel⟩
theorem mi_T_stopOf : Cond.instanceMethod y_T_stopOf ∈ xw_g ∧ Cond.selects (y_T_stopOf).cls y_T_stopOf y_T_stopOf ∈ xw_g := ⟨xw_in mw_307 rfl, xw_in mw_308 rfl⟩
theorem mt_T_at : xx_mt m_T_at 1 := ⟨xw_in mw_330 rfl, xw_in mw_2 rfl, by decide, by decide, by decide +kernel⟩
theorem mi_T_at : Cond.instanceMethod y_T_at ∈ xw_g ∧ Cond.selects (y_T_at).cls y_T_at y_T_at ∈ xw_g := ⟨xw_in mw_328 rfl, xw_in mw_329 rfl⟩
theorem mt_T_isBlankAt : xx_mt m_T_isBlankAt 1 := ⟨xw_in mw_326 rfl, xw_in mw_2 rfl, by decide, by decide, by decide +kernel⟩
theorem mi_T_isBlankAt : Cond.instanceMethod y_T_isBlankAt ∈ xw_g ∧ Cond.selects (y_T_isBlankAt).cls y_T_isBlankAt y_T_isBlankAt ∈ xw_g := ⟨xw_in mw_324 rfl, xw_in mw_325 rfl⟩
theorem mt_T_passDigits : xx_mt m_T_passDigits 2 := ⟨xw_in mw_351 rfl, xw_in mw_2 rfl, by decide, by decide, by decide +kernel⟩
theorem mi_T_passDigits : Cond.instanceMethod y_T_passDigits ∈ xw_g ∧ Cond.selects (y_T_passDigits).cls y_T_passDigits y_T_passDigits ∈ xw_g := ⟨xw_in mw_349 rfl, xw_in mw_350 rfl⟩
theorem mt_T_comparedBytes : xx_mt m_T_comparedBytes 5 := ⟨xw_in mw_362 rfl, xw_in mw_2 rfl, by decide, by decide, by decide +kernel⟩
theorem mi_T_comparedBytes : Cond.instanceMethod y_T_comparedBytes ∈ xw_g ∧ Cond.selects (y_T_comparedBytes).cls y_T_comparedBytes y_T_comparedBytes ∈ xw_g := ⟨xw_in mw_360 rfl, xw_in mw_361 rfl⟩
theorem mt_T_weightOf : xx_mt m_T_weightOf 2 := ⟨xw_in mw_366 rfl, xw_in mw_2 rfl, by decide, by decide, by decide +kernel⟩
theorem ms_T_weightOf : Cond.static y_T_weightOf ∈ xw_g := xw_in mw_365 rfl
theorem mt_J_compare : xx_mt m_J_compare 2 := ⟨xw_in mw_354 rfl, xw_in mw_21 rfl, by decide, by decide, by decide +kernel⟩
theorem ms_J_compare : Cond.static y_J_compare ∈ xw_g := xw_in mw_353 rfl
theorem mt_J_copyB : xx_mt m_J_copyB 2 := ⟨xw_in mw_473 rfl, xw_in mw_15 rfl, by decide, by decide, by decide +kernel⟩
theorem ms_J_copyB : Cond.static y_J_copyB ∈ xw_g := xw_in mw_472 rfl
theorem mt_J_copyI : xx_mt m_J_copyI 2 := ⟨xw_in mw_487 rfl, xw_in mw_15 rfl, by decide, by decide, by decide +kernel⟩
theorem ms_J_copyI : Cond.static y_J_copyI ∈ xw_g := xw_in mw_486 rfl
theorem jm_min_s : Cond.static Lib.Math.min.name ∈ xw_g := xw_in mw_332 rfl
theorem jm_min_c : Cond.code Lib.Math.min.name Lib.Math.min.code 2 (some .int) ∈ xw_g := xw_in mw_333 rfl
theorem jm_max_s : Cond.static Lib.Math.max.name ∈ xw_g := xw_in mw_292 rfl
theorem jm_max_c : Cond.code Lib.Math.max.name Lib.Math.max.code 2 (some .int) ∈ xw_g := xw_in mw_293 rfl
theorem jm_i : Cond.initialized "java/lang/Math" ∈ xw_g := xw_in mw_16 rfl
end
section
/-- the text: its length, the places of its line ends, its bytes -/
def txt (x : Nat → Int32) (n : Nat → Nat) (f : Nat → Nat → Int32) (len bc : Nat) (br : Nat → Nat) (B : Nat → Int32) : Prop :=
  x 3 = nI len ∧ x 4 = nI bc ∧ len ≤ n 0 ∧ n 0 ≤ 40960 ∧ bc ≤ n 1 ∧ n 1 ≤ 40960 ∧ (∀ i, i < bc → f 1 i = nI (br i) ∧ br i < len) ∧ ∀ i, i < len → f 0 i = B i
def tx_start (br : Nat → Nat) (l : Nat) : Nat := if 0 < l then br (l - 1) + 1 else 0
def tx_stop (len bc : Nat) (br : Nat → Nat) (l : Nat) : Nat := if l < bc then br l else len
def tx_count (len bc : Nat) (br : Nat → Nat) : Nat := if tx_start br bc < len then bc + 1 else bc
set_option maxRecDepth 100000 in
set_option maxHeartbeats 4000000 in
theorem c_T_at {G : XG} {q : Nat → Nat} {x : Nat → Int32} {n : Nat → Nat} {f : Nat → Nat → Int32} {kf : Nat → Option Nat} {kl : va_W} {len bc : Nat} {br : Nat → Nat} {B : Nat → Int32} (ht : txt x n f len bc br B) {i : Nat} (hi : i < len) : MR G m_T_at (xr 0 0 0) [.ref (q 1), .int (nI i)] (wC G q x n f kf kl) (some (.int (B i &&& nI 255))) := by
  obtain ⟨hx3, hx4, hl0, hn0, hb1, hn1, hbr, hB⟩ := id ht
  refine MR.of rfl (xn_le rfl) ?_
  refine (?_ : XR G m_T_at (xr 0 0 0) (xr_F (some (.int (B i &&& nI 255)))) (wC G q x n f kf kl) 0 [(0, .ref (q 1)), (1, .int (nI i))] [])
  refine XR.aload_n dd_T_at_0 rfl 0 rfl ?_
  refine XR.get (q0 := 1) (v := .ref (q 2)) fl_T_11 dd_T_at_1 rfl rfl ?_
  refine XR.iload_n dd_T_at_4 rfl 1 rfl ?_
  refine XR.bald (q0 := 2) (n := n 0) (j := i) (f := f 0) dd_T_at_5 rfl (by omega) (by omega) ?_
  refine XR.tp (y := B i) (hB _ (by omega)) ?_
  refine XR.sipush (v := nI 255) dd_T_at_6 (by decide) ?_
  refine XR.iand dd_T_at_9 ?_
  exact XR.iret dd_T_at_10 rfl

set_option maxRecDepth 100000 in
set_option maxHeartbeats 4000000 in
theorem c_T_isBlankAt {G : XG} {q : Nat → Nat} {x : Nat → Int32} {n : Nat → Nat} {f : Nat → Nat → Int32} {kf : Nat → Option Nat} {kl : va_W} {len bc : Nat} {br : Nat → Nat} {B : Nat → Int32} (ht : txt x n f len bc br B) {i : Nat} (hi : i < len) : MR G m_T_isBlankAt (xr 0 0 0) [.ref (q 1), .int (nI i)] (wC G q x n f kf kl) (some (.int (bI (pb_blk B i)))) := by
  obtain ⟨hx3, hx4, hl0, hn0, hb1, hn1, hbr, hB⟩ := id ht
  refine MR.of rfl (xn_le rfl) ?_
  refine (?_ : XR G m_T_isBlankAt (xr 0 0 0) (xr_F (some (.int (bI (pb_blk B i))))) (wC G q x n f kf kl) 0 [(0, .ref (q 1)), (1, .int (nI i))] [])
  refine XR.aload_n dd_T_isBlankAt_0 rfl 0 rfl ?_
  refine XR.get (q0 := 1) (v := .ref (q 2)) fl_T_11 dd_T_isBlankAt_1 rfl rfl ?_
  refine XR.iload_n dd_T_isBlankAt_4 rfl 1 rfl ?_
  refine XR.bald (q0 := 2) (n := n 0) (j := i) (f := f 0) dd_T_isBlankAt_5 rfl (by omega) (by omega) ?_
  refine XR.tp (y := B i) (hB _ (by omega)) ?_
  refine XR.bipush (v := nI 32) dd_T_isBlankAt_6 (by decide) ?_
  refine XR.icmp_eq (tgt := 22) dd_T_isBlankAt_8 (by decide) (fun h8 => ?_) (fun h8 => ?_)
  ·
    refine XR.iconst (v := nI 1) dd_T_isBlankAt_22 (by decide) ?_
    refine XR.goto (tgt := 27) dd_T_isBlankAt_23 (by decide) ?_
    refine XR.tp (y := bI (pb_blk B i)) (by simp [bI, pb_blk, h8]) ?_
    exact XR.zret dd_T_isBlankAt_27 rfl (bI_nar _)
  ·
    refine XR.aload_n dd_T_isBlankAt_11 rfl 0 rfl ?_
    refine XR.get (q0 := 1) (v := .ref (q 2)) fl_T_11 dd_T_isBlankAt_12 rfl rfl ?_
    refine XR.iload_n dd_T_isBlankAt_15 rfl 1 rfl ?_
    refine XR.bald (q0 := 2) (n := n 0) (j := i) (f := f 0) dd_T_isBlankAt_16 rfl (by omega) (by omega) ?_
    refine XR.tp (y := B i) (hB _ (by omega)) ?_
    refine XR.bipush (v := nI 9) dd_T_isBlankAt_17 (by decide) ?_
    refine XR.icmp_ne (tgt := 26) dd_T_isBlankAt_19 (by decide) (fun h19 => ?_) (fun h19 => ?_)
    ·
      refine XR.iconst (v := nI 0) dd_T_isBlankAt_26 (by decide) ?_
      refine XR.tp (y := bI (pb_blk B i)) (by simp [bI, pb_blk, h8, h19]) ?_
      exact XR.zret dd_T_isBlankAt_27 rfl (bI_nar _)
    ·
      refine XR.iconst (v := nI 1) dd_T_isBlankAt_22 (by decide) ?_
      refine XR.goto (tgt := 27) dd_T_isBlankAt_23 (by decide) ?_
      refine XR.tp (y := bI (pb_blk B i)) (by simp [bI, pb_blk, h8, h19]) ?_
      exact XR.zret dd_T_isBlankAt_27 rfl (bI_nar _)

set_option maxRecDepth 100000 in
set_option maxHeartbeats 4000000 in
theorem c_T_startOf {G : XG} {q : Nat → Nat} {x : Nat → Int32} {n : Nat → Nat} {f : Nat → Nat → Int32} {kf : Nat → Option Nat} {kl : va_W} {len bc : Nat} {br : Nat → Nat} {B : Nat → Int32} (ht : txt x n f len bc br B) {l : Nat} (hl : l ≤ bc) : MR G m_T_startOf (xr 0 0 0) [.ref (q 1), .int (nI l)] (wC G q x n f kf kl) (some (.int (nI (tx_start br l)))) := by
  obtain ⟨hx3, hx4, hl0, hn0, hb1, hn1, hbr, hB⟩ := id ht
  refine MR.of rfl (xn_le rfl) ?_
  refine (?_ : XR G m_T_startOf (xr 0 0 0) (xr_F (some (.int (nI (tx_start br l))))) (wC G q x n f kf kl) 0 [(0, .ref (q 1)), (1, .int (nI l))] [])
  refine XR.iload_n dd_T_startOf_0 rfl 1 rfl ?_
  refine XR.nif_le (tgt := 17) dd_T_startOf_1 (by decide) (by omega) (fun h1 => ?_) (fun h1 => ?_)
  ·
    refine XR.iconst (v := nI 0) dd_T_startOf_17 (by decide) ?_
    refine XR.tp (y := nI (tx_start br l)) (by unfold tx_start; split <;> first | rfl | (exfalso; omega)) ?_
    exact XR.iret dd_T_startOf_18 rfl
  ·
    refine XR.aload_n dd_T_startOf_4 rfl 0 rfl ?_
    refine XR.get (q0 := 1) (v := .ref (q 3)) fl_T_19 dd_T_startOf_5 rfl rfl ?_
    refine XR.iload_n dd_T_startOf_8 rfl 1 rfl ?_
    refine XR.iconst (v := nI 1) dd_T_startOf_9 (by decide) ?_
    refine XR.isub dd_T_startOf_10 ?_
    refine XR.tp (y := nI (l - 1)) (pk_sub (by omega)) ?_
    refine XR.iald (q0 := 3) (n := n 1) (j := l - 1) (f := f 1) dd_T_startOf_11 rfl (by omega) (by omega) ?_
    refine XR.tp (y := nI (br (l - 1))) ((hbr _ (by omega)).1) ?_
    refine XR.iconst (v := nI 1) dd_T_startOf_12 (by decide) ?_
    refine XR.iadd dd_T_startOf_13 ?_
    refine XR.tp (y := nI (br (l - 1) + 1)) (nI_add _ _) ?_
    refine XR.goto (tgt := 18) dd_T_startOf_14 (by decide) ?_
    refine XR.tp (y := nI (tx_start br l)) (by unfold tx_start; split <;> first | rfl | (exfalso; omega)) ?_
    exact XR.iret dd_T_startOf_18 rfl

set_option maxRecDepth 100000 in
set_option maxHeartbeats 4000000 in
theorem c_T_stopOf {G : XG} {q : Nat → Nat} {x : Nat → Int32} {n : Nat → Nat} {f : Nat → Nat → Int32} {kf : Nat → Option Nat} {kl : va_W} {len bc : Nat} {br : Nat → Nat} {B : Nat → Int32} (ht : txt x n f len bc br B) {l : Nat} (hl : l < 2 ^ 31) : MR G m_T_stopOf (xr 0 0 0) [.ref (q 1), .int (nI l)] (wC G q x n f kf kl) (some (.int (nI (tx_stop len bc br l)))) := by
  obtain ⟨hx3, hx4, hl0, hn0, hb1, hn1, hbr, hB⟩ := id ht
  refine MR.of rfl (xn_le rfl) ?_
  refine (?_ : XR G m_T_stopOf (xr 0 0 0) (xr_F (some (.int (nI (tx_stop len bc br l))))) (wC G q x n f kf kl) 0 [(0, .ref (q 1)), (1, .int (nI l))] [])
  refine XR.iload_n dd_T_stopOf_0 rfl 1 rfl ?_
  refine XR.aload_n dd_T_stopOf_1 rfl 0 rfl ?_
  refine XR.get (q0 := 1) (v := .int (x 4)) fl_T_23 dd_T_stopOf_2 rfl rfl ?_
  refine XR.tp (y := nI bc) (hx4) ?_
  refine XR.ncmp_ge (tgt := 17) dd_T_stopOf_5 (by decide) (by omega) (by omega) (fun h5 => ?_) (fun h5 => ?_)
  ·
    refine XR.aload_n dd_T_stopOf_17 rfl 0 rfl ?_
    refine XR.get (q0 := 1) (v := .int (x 3)) fl_T_15 dd_T_stopOf_18 rfl rfl ?_
    refine XR.tp (y := nI len) (hx3) ?_
    refine XR.tp (y := nI (tx_stop len bc br l)) (by unfold tx_stop; split <;> first | rfl | (exfalso; omega)) ?_
    exact XR.iret dd_T_stopOf_21 rfl
  ·
    refine XR.aload_n dd_T_stopOf_8 rfl 0 rfl ?_
    refine XR.get (q0 := 1) (v := .ref (q 3)) fl_T_19 dd_T_stopOf_9 rfl rfl ?_
    refine XR.iload_n dd_T_stopOf_12 rfl 1 rfl ?_
    refine XR.iald (q0 := 3) (n := n 1) (j := l) (f := f 1) dd_T_stopOf_13 rfl (by omega) (by omega) ?_
    refine XR.tp (y := nI (br l)) ((hbr _ (by omega)).1) ?_
    refine XR.goto (tgt := 21) dd_T_stopOf_14 (by decide) ?_
    refine XR.tp (y := nI (tx_stop len bc br l)) (by unfold tx_stop; split <;> first | rfl | (exfalso; omega)) ?_
    exact XR.iret dd_T_stopOf_21 rfl

theorem tx_start_le {len bc : Nat} {br : Nat → Nat} (h : ∀ i, i < bc → br i < len) {l : Nat} (hl : l ≤ bc) : tx_start br l ≤ len := by
  unfold tx_start
  split
  · exact h _ (by omega)
  · exact Nat.zero_le _
theorem tx_stop_le {len bc : Nat} {br : Nat → Nat} (h : ∀ i, i < bc → br i < len) (l : Nat) : tx_stop len bc br l ≤ len := by
  unfold tx_stop
  split
  · rename_i h1; exact Nat.le_of_lt (h l h1)
  · exact Nat.le_refl _
set_option maxRecDepth 100000 in
set_option maxHeartbeats 4000000 in
theorem c_T_lineCount {G : XG} {q : Nat → Nat} {x : Nat → Int32} {n : Nat → Nat} {f : Nat → Nat → Int32} {kf : Nat → Option Nat} {kl : va_W} {len bc : Nat} {br : Nat → Nat} {B : Nat → Int32} (ht : txt x n f len bc br B)  : MR G m_T_lineCount (xr 1 0 0) [.ref (q 1)] (wC G q x n f kf kl) (some (.int (nI (tx_count len bc br)))) := by
  obtain ⟨hx3, hx4, hl0, hn0, hb1, hn1, hbr, hB⟩ := id ht
  have hsl := tx_start_le (fun i h => (hbr i h).2) (Nat.le_refl bc)
  refine MR.of rfl (xn_le rfl) ?_
  refine (?_ : XR G m_T_lineCount (xr 1 0 0) (xr_F (some (.int (nI (tx_count len bc br))))) (wC G q x n f kf kl) 0 [(0, .ref (q 1))] [])
  refine XR.aload_n dd_T_lineCount_0 rfl 0 rfl ?_
  refine XR.aload_n dd_T_lineCount_1 rfl 0 rfl ?_
  refine XR.get (q0 := 1) (v := .int (x 4)) fl_T_23 dd_T_lineCount_2 rfl rfl ?_
  refine XR.tp (y := nI bc) (hx4) ?_
  refine XR.callV (Mk := m_T_startOf) (n := 1) (As := [.int (nI bc)]) (rest := []) (q0 := 1) (ci := 1) (c_T_startOf ht (l := bc) (by omega)) mt_T_startOf mi_T_startOf ml_T_39 rfl dd_T_lineCount_5 (rfl) rfl rfl ⟨xn_le rfl, xn_le rfl⟩ (xn_le rfl) rfl ?_
  refine XR.aload_n dd_T_lineCount_8 rfl 0 rfl ?_
  refine XR.get (q0 := 1) (v := .int (x 3)) fl_T_15 dd_T_lineCount_9 rfl rfl ?_
  refine XR.tp (y := nI len) (hx3) ?_
  refine XR.ncmp_ge (tgt := 24) dd_T_lineCount_12 (by decide) (by omega) (by omega) (fun h12 => ?_) (fun h12 => ?_)
  ·
    refine XR.aload_n dd_T_lineCount_24 rfl 0 rfl ?_
    refine XR.get (q0 := 1) (v := .int (x 4)) fl_T_23 dd_T_lineCount_25 rfl rfl ?_
    refine XR.tp (y := nI bc) (hx4) ?_
    refine XR.tp (y := nI (tx_count len bc br)) (by unfold tx_count; split <;> first | rfl | (exfalso; omega)) ?_
    exact XR.iret dd_T_lineCount_28 rfl
  ·
    refine XR.aload_n dd_T_lineCount_15 rfl 0 rfl ?_
    refine XR.get (q0 := 1) (v := .int (x 4)) fl_T_23 dd_T_lineCount_16 rfl rfl ?_
    refine XR.tp (y := nI bc) (hx4) ?_
    refine XR.iconst (v := nI 1) dd_T_lineCount_19 (by decide) ?_
    refine XR.iadd dd_T_lineCount_20 ?_
    refine XR.tp (y := nI (bc + 1)) (nI_add _ _) ?_
    refine XR.goto (tgt := 28) dd_T_lineCount_21 (by decide) ?_
    refine XR.tp (y := nI (tx_count len bc br)) (by unfold tx_count; split <;> first | rfl | (exfalso; omega)) ?_
    exact XR.iret dd_T_lineCount_28 rfl

set_option maxRecDepth 100000 in
set_option maxHeartbeats 4000000 in
theorem c_T_passDigits {G : XG} {q : Nat → Nat} {x : Nat → Int32} {n : Nat → Nat} {f : Nat → Nat → Int32} {kf : Nat → Option Nat} {kl : va_W} {len bc : Nat} {br : Nat → Nat} {B : Nat → Int32} (ht : txt x n f len bc br B) {a b : Nat} (hb : b ≤ len) (ha : a ≤ len) : MR G m_T_passDigits (xr 0 0 0) [.ref (q 1), .int (nI a), .int (nI b)] (wC G q x n f kf kl) (some (.int (nI (sk (pb_dig B) b a)))) := by
  obtain ⟨hx3, hx4, hl0, hn0, hb1, hn1, hbr, hB⟩ := id ht
  refine MR.of rfl (xn_le rfl) ?_
  refine (?_ : XR G m_T_passDigits (xr 0 0 0) (xr_F (some (.int (nI (sk (pb_dig B) b a))))) (wC G q x n f kf kl) 0 [(0, .ref (q 1)), (1, .int (nI a)), (2, .int (nI b))] [])
  have loop : ∀ (kk : Nat) (i : Nat), b - i = kk → i ≤ len → sk (pb_dig B) b i = sk (pb_dig B) b a → XR G m_T_passDigits (xr 0 0 0) (xr_F (some (.int (nI (sk (pb_dig B) b a))))) (wC G q x n f kf kl) 2 [(0, .ref (q 1)), (1, .int (nI a)), (2, .int (nI b)), (3, .int (nI i))] [] := by
    intro kk
    induction kk using Nat.strongRecOn with
    | _ kk ih =>
      intro i hk hi hr
      refine XR.iload_n dd_T_passDigits_2 rfl 3 rfl ?_
      refine XR.iload_n dd_T_passDigits_3 rfl 2 rfl ?_
      refine XR.ncmp_ge (tgt := 35) dd_T_passDigits_4 (by decide) (by omega) (by omega) (fun h4 => ?_) (fun h4 => ?_)
      ·
        refine XR.iload_n dd_T_passDigits_35 rfl 3 rfl ?_
        refine XR.tp (y := nI (sk (pb_dig B) b a)) (by rw [← hr, sk_stop (fun hz => by first | (exfalso; omega) | simp [pb_dig, h4])]) ?_
        exact XR.iret dd_T_passDigits_36 rfl
      ·
        refine XR.aload_n dd_T_passDigits_7 rfl 0 rfl ?_
        refine XR.get (q0 := 1) (v := .ref (q 2)) fl_T_11 dd_T_passDigits_8 rfl rfl ?_
        refine XR.iload_n dd_T_passDigits_11 rfl 3 rfl ?_
        refine XR.bald (q0 := 2) (n := n 0) (j := i) (f := f 0) dd_T_passDigits_12 rfl (by omega) (by omega) ?_
        refine XR.tp (y := B i) (hB _ (by omega)) ?_
        refine XR.bipush (v := nI 48) dd_T_passDigits_13 (by decide) ?_
        refine XR.icmp_lt (tgt := 35) dd_T_passDigits_15 (by decide) (fun h15 => ?_) (fun h15 => ?_)
        ·
          refine XR.iload_n dd_T_passDigits_35 rfl 3 rfl ?_
          refine XR.tp (y := nI (sk (pb_dig B) b a)) (by rw [← hr, sk_stop (fun hz => by first | (exfalso; omega) | simp [pb_dig, h4, h15])]) ?_
          exact XR.iret dd_T_passDigits_36 rfl
        ·
          refine XR.aload_n dd_T_passDigits_18 rfl 0 rfl ?_
          refine XR.get (q0 := 1) (v := .ref (q 2)) fl_T_11 dd_T_passDigits_19 rfl rfl ?_
          refine XR.iload_n dd_T_passDigits_22 rfl 3 rfl ?_
          refine XR.bald (q0 := 2) (n := n 0) (j := i) (f := f 0) dd_T_passDigits_23 rfl (by omega) (by omega) ?_
          refine XR.tp (y := B i) (hB _ (by omega)) ?_
          refine XR.bipush (v := nI 57) dd_T_passDigits_24 (by decide) ?_
          refine XR.icmp_gt (tgt := 35) dd_T_passDigits_26 (by decide) (fun h26 => ?_) (fun h26 => ?_)
          ·
            refine XR.iload_n dd_T_passDigits_35 rfl 3 rfl ?_
            refine XR.tp (y := nI (sk (pb_dig B) b a)) (by rw [← hr, sk_stop (fun hz => by first | (exfalso; omega) | simp [pb_dig, h4, h15, h26])]) ?_
            exact XR.iret dd_T_passDigits_36 rfl
          ·
            refine XR.iinc (z := 3) (v := nI (i + 1)) (lv2 := [(3, .int (nI (i + 1))), (0, .ref (q 1)), (1, .int (nI a)), (2, .int (nI b))]) dd_T_passDigits_29 rfl ((nI_succ _).symm) (by decide) rfl ?_
            refine XR.goto (tgt := 2) dd_T_passDigits_32 (by decide) ?_
            refine XR.lvs [1, 2, 3, 0] rfl ?_
            exact ih _ (by omega) (i + 1) rfl (by omega) (by rw [← hr, sk_step (a := i) (by omega) (by simp [pb_dig, h15, h26])])
  refine XR.iload_n dd_T_passDigits_0 rfl 1 rfl ?_
  refine XR.istore_n (lv2 := [(3, .int (nI a)), (0, .ref (q 1)), (1, .int (nI a)), (2, .int (nI b))]) dd_T_passDigits_1 rfl (by decide) rfl ?_
  refine XR.lvs [1, 2, 3, 0] rfl ?_
  exact loop _ a rfl ha rfl
end
