section
-- ===== PART A: goes FIRST, ahead of the names: the tables' words, and 'selects' of the private methods out of them =====
/-- a private method of a class that the tables say can be made, by its rows of tables_1 -/
def lw_okq (q : MethodName × Nat) : Prop := (q.1.cls ≠ "java/lang/invoke/MethodHandle" ∧ q.1.cls ≠ "java/lang/invoke/VarHandle") ∧ Cond.instantiable q.1.cls q.2 ∈ tables_1 ∧ Cond.privateMethod q.1 ∈ tables_1 ∧ Cond.instanceMethod q.1 ∈ tables_1
theorem lw_p0 : lw_okq (⟨"ImageGcds", "requireRoom", "()V"⟩, 4) := ⟨⟨by decide +kernel, by decide +kernel⟩, List.mem_of_getElem? (i := 23) (by decide +kernel), List.mem_of_getElem? (i := 61) (by decide +kernel), List.mem_of_getElem? (i := 62) (by decide +kernel)⟩
theorem lw_p1 : lw_okq (⟨"java/lang/Throwable", "fillInStackTrace", "(I)Ljava/lang/Throwable;"⟩, 6) := ⟨⟨by decide +kernel, by decide +kernel⟩, List.mem_of_getElem? (i := 104) (by decide +kernel), List.mem_of_getElem? (i := 102) (by decide +kernel), List.mem_of_getElem? (i := 103) (by decide +kernel)⟩
theorem lw_p2 : lw_okq (⟨"ImageGcds", "keep", "(LImageGcds$Poly;)I"⟩, 4) := ⟨⟨by decide +kernel, by decide +kernel⟩, List.mem_of_getElem? (i := 23) (by decide +kernel), List.mem_of_getElem? (i := 156) (by decide +kernel), List.mem_of_getElem? (i := 157) (by decide +kernel)⟩
theorem lw_p3 : lw_okq (⟨"ImageGcds", "held", "(I)LImageGcds$Poly;"⟩, 4) := ⟨⟨by decide +kernel, by decide +kernel⟩, List.mem_of_getElem? (i := 23) (by decide +kernel), List.mem_of_getElem? (i := 170) (by decide +kernel), List.mem_of_getElem? (i := 171) (by decide +kernel)⟩
theorem lw_p4 : lw_okq (⟨"ImageGcds", "mirrored", "(I)I"⟩, 4) := ⟨⟨by decide +kernel, by decide +kernel⟩, List.mem_of_getElem? (i := 23) (by decide +kernel), List.mem_of_getElem? (i := 229) (by decide +kernel), List.mem_of_getElem? (i := 230) (by decide +kernel)⟩
theorem lw_p5 : lw_okq (⟨"ImageGcds$Poly", "placeOf", "(I)I"⟩, 3) := ⟨⟨by decide +kernel, by decide +kernel⟩, List.mem_of_getElem? (i := 133) (by decide +kernel), List.mem_of_getElem? (i := 237) (by decide +kernel), List.mem_of_getElem? (i := 238) (by decide +kernel)⟩
theorem lw_p6 : lw_okq (⟨"ImageGcds$Poly", "takeOut", "(I)V"⟩, 3) := ⟨⟨by decide +kernel, by decide +kernel⟩, List.mem_of_getElem? (i := 133) (by decide +kernel), List.mem_of_getElem? (i := 241) (by decide +kernel), List.mem_of_getElem? (i := 242) (by decide +kernel)⟩
theorem lw_p7 : lw_okq (⟨"ImageGcds$Poly", "insert", "(III)V"⟩, 3) := ⟨⟨by decide +kernel, by decide +kernel⟩, List.mem_of_getElem? (i := 133) (by decide +kernel), List.mem_of_getElem? (i := 248) (by decide +kernel), List.mem_of_getElem? (i := 249) (by decide +kernel)⟩
theorem lw_p8 : lw_okq (⟨"ImageGcds$Poly", "widen", "()V"⟩, 3) := ⟨⟨by decide +kernel, by decide +kernel⟩, List.mem_of_getElem? (i := 133) (by decide +kernel), List.mem_of_getElem? (i := 252) (by decide +kernel), List.mem_of_getElem? (i := 253) (by decide +kernel)⟩
theorem lw_p9 : lw_okq (⟨"ImageGcds", "requireLowProduct", "(LImageGcds$Poly;LImageGcds$Poly;)V"⟩, 4) := ⟨⟨by decide +kernel, by decide +kernel⟩, List.mem_of_getElem? (i := 23) (by decide +kernel), List.mem_of_getElem? (i := 294) (by decide +kernel), List.mem_of_getElem? (i := 295) (by decide +kernel)⟩
theorem lw_p10 : lw_okq (⟨"ImageGcds", "shiftOf", "(I)I"⟩, 4) := ⟨⟨by decide +kernel, by decide +kernel⟩, List.mem_of_getElem? (i := 23) (by decide +kernel), List.mem_of_getElem? (i := 298) (by decide +kernel), List.mem_of_getElem? (i := 299) (by decide +kernel)⟩
theorem lw_p11 : lw_okq (⟨"ImageGcds", "bench", "()LImageGcds$Bench;"⟩, 4) := ⟨⟨by decide +kernel, by decide +kernel⟩, List.mem_of_getElem? (i := 23) (by decide +kernel), List.mem_of_getElem? (i := 310) (by decide +kernel), List.mem_of_getElem? (i := 311) (by decide +kernel)⟩
theorem lw_p12 : lw_okq (⟨"ImageGcds$Divider", "collect", "([II)V"⟩, 5) := ⟨⟨by decide +kernel, by decide +kernel⟩, List.mem_of_getElem? (i := 320) (by decide +kernel), List.mem_of_getElem? (i := 528) (by decide +kernel), List.mem_of_getElem? (i := 529) (by decide +kernel)⟩
theorem lw_p13 : lw_okq (⟨"ImageGcds$Divider", "takeAway", "(II)V"⟩, 5) := ⟨⟨by decide +kernel, by decide +kernel⟩, List.mem_of_getElem? (i := 320) (by decide +kernel), List.mem_of_getElem? (i := 533) (by decide +kernel), List.mem_of_getElem? (i := 534) (by decide +kernel)⟩
theorem lw_p14 : lw_okq (⟨"ImageGcds$Images", "greatest", "(I[I[I[I)V"⟩, 5) := ⟨⟨by decide +kernel, by decide +kernel⟩, List.mem_of_getElem? (i := 343) (by decide +kernel), List.mem_of_getElem? (i := 548) (by decide +kernel), List.mem_of_getElem? (i := 549) (by decide +kernel)⟩
theorem lw_p15 : lw_okq (⟨"ImageGcds$Images", "floorOf", "(I)LImageGcds$Floor;"⟩, 5) := ⟨⟨by decide +kernel, by decide +kernel⟩, List.mem_of_getElem? (i := 343) (by decide +kernel), List.mem_of_getElem? (i := 564) (by decide +kernel), List.mem_of_getElem? (i := 565) (by decide +kernel)⟩
def lw_privs_1 : List (MethodName × Nat) := [(⟨"ImageGcds", "requireRoom", "()V"⟩, 4), (⟨"java/lang/Throwable", "fillInStackTrace", "(I)Ljava/lang/Throwable;"⟩, 6), (⟨"ImageGcds", "keep", "(LImageGcds$Poly;)I"⟩, 4), (⟨"ImageGcds", "held", "(I)LImageGcds$Poly;"⟩, 4), (⟨"ImageGcds", "mirrored", "(I)I"⟩, 4), (⟨"ImageGcds$Poly", "placeOf", "(I)I"⟩, 3), (⟨"ImageGcds$Poly", "takeOut", "(I)V"⟩, 3), (⟨"ImageGcds$Poly", "insert", "(III)V"⟩, 3), (⟨"ImageGcds$Poly", "widen", "()V"⟩, 3), (⟨"ImageGcds", "requireLowProduct", "(LImageGcds$Poly;LImageGcds$Poly;)V"⟩, 4), (⟨"ImageGcds", "shiftOf", "(I)I"⟩, 4), (⟨"ImageGcds", "bench", "()LImageGcds$Bench;"⟩, 4), (⟨"ImageGcds$Divider", "collect", "([II)V"⟩, 5), (⟨"ImageGcds$Divider", "takeAway", "(II)V"⟩, 5), (⟨"ImageGcds$Images", "greatest", "(I[I[I[I)V"⟩, 5), (⟨"ImageGcds$Images", "floorOf", "(I)LImageGcds$Floor;"⟩, 5)]
theorem lw_r1 : ∀ q ∈ lw_privs_1, lw_okq q := List.forall_mem_cons.mpr ⟨lw_p0, List.forall_mem_cons.mpr ⟨lw_p1, List.forall_mem_cons.mpr ⟨lw_p2, List.forall_mem_cons.mpr ⟨lw_p3, List.forall_mem_cons.mpr ⟨lw_p4, List.forall_mem_cons.mpr ⟨lw_p5, List.forall_mem_cons.mpr ⟨lw_p6, List.forall_mem_cons.mpr ⟨lw_p7, List.forall_mem_cons.mpr ⟨lw_p8, List.forall_mem_cons.mpr ⟨lw_p9, List.forall_mem_cons.mpr ⟨lw_p10, List.forall_mem_cons.mpr ⟨lw_p11, List.forall_mem_cons.mpr ⟨lw_p12, List.forall_mem_cons.mpr ⟨lw_p13, List.forall_mem_cons.mpr ⟨lw_p14, List.forall_mem_cons.mpr ⟨lw_p15, fun _ h => absurd h List.not_mem_nil⟩⟩⟩⟩⟩⟩⟩⟩⟩⟩⟩⟩⟩⟩⟩⟩
theorem lw_p16 : lw_okq (⟨"ImageGcds$Images", "search", "(ILImageGcds$Floor;[I)V"⟩, 5) := ⟨⟨by decide +kernel, by decide +kernel⟩, List.mem_of_getElem? (i := 343) (by decide +kernel), List.mem_of_getElem? (i := 586) (by decide +kernel), List.mem_of_getElem? (i := 587) (by decide +kernel)⟩
theorem lw_p17 : lw_okq (⟨"ImageGcds$Curve", "raise", "(II)V"⟩, 3) := ⟨⟨by decide +kernel, by decide +kernel⟩, List.mem_of_getElem? (i := 371) (by decide +kernel), List.mem_of_getElem? (i := 615) (by decide +kernel), List.mem_of_getElem? (i := 616) (by decide +kernel)⟩
theorem lw_p18 : lw_okq (⟨"ImageGcds$Curve", "multiplyProduct", "(I)V"⟩, 3) := ⟨⟨by decide +kernel, by decide +kernel⟩, List.mem_of_getElem? (i := 371) (by decide +kernel), List.mem_of_getElem? (i := 619) (by decide +kernel), List.mem_of_getElem? (i := 620) (by decide +kernel)⟩
theorem lw_p19 : lw_okq (⟨"ImageGcds", "requireLetter", "(I)V"⟩, 4) := ⟨⟨by decide +kernel, by decide +kernel⟩, List.mem_of_getElem? (i := 23) (by decide +kernel), List.mem_of_getElem? (i := 647) (by decide +kernel), List.mem_of_getElem? (i := 648) (by decide +kernel)⟩
theorem lw_p20 : lw_okq (⟨"ImageGcds", "requireLowResultant", "(LImageGcds$Poly;LImageGcds$Poly;I)V"⟩, 4) := ⟨⟨by decide +kernel, by decide +kernel⟩, List.mem_of_getElem? (i := 23) (by decide +kernel), List.mem_of_getElem? (i := 652) (by decide +kernel), List.mem_of_getElem? (i := 653) (by decide +kernel)⟩
theorem lw_p21 : lw_okq (⟨"ImageGcds$Bench", "spreadInFront", "(LImageGcds$Poly;I[I)V"⟩, 7) := ⟨⟨by decide +kernel, by decide +kernel⟩, List.mem_of_getElem? (i := 314) (by decide +kernel), List.mem_of_getElem? (i := 665) (by decide +kernel), List.mem_of_getElem? (i := 666) (by decide +kernel)⟩
theorem lw_p22 : lw_okq (⟨"ImageGcds$Images", "eliminate", "(I[I[I[I)V"⟩, 5) := ⟨⟨by decide +kernel, by decide +kernel⟩, List.mem_of_getElem? (i := 343) (by decide +kernel), List.mem_of_getElem? (i := 671) (by decide +kernel), List.mem_of_getElem? (i := 672) (by decide +kernel)⟩
theorem lw_p23 : lw_okq (⟨"ImageGcds$Bench", "gatheredBeside", "([II)LImageGcds$Poly;"⟩, 7) := ⟨⟨by decide +kernel, by decide +kernel⟩, List.mem_of_getElem? (i := 314) (by decide +kernel), List.mem_of_getElem? (i := 685) (by decide +kernel), List.mem_of_getElem? (i := 686) (by decide +kernel)⟩
theorem lw_p24 : lw_okq (⟨"ImageGcds$Bench", "divide", "([I[I[I)V"⟩, 7) := ⟨⟨by decide +kernel, by decide +kernel⟩, List.mem_of_getElem? (i := 314) (by decide +kernel), List.mem_of_getElem? (i := 731) (by decide +kernel), List.mem_of_getElem? (i := 732) (by decide +kernel)⟩
theorem lw_p25 : lw_okq (⟨"ImageGcdsModel", "isFull", "()Z"⟩, 25) := ⟨⟨by decide +kernel, by decide +kernel⟩, List.mem_of_getElem? (i := 784) (by decide +kernel), List.mem_of_getElem? (i := 875) (by decide +kernel), List.mem_of_getElem? (i := 876) (by decide +kernel)⟩
theorem lw_p26 : lw_okq (⟨"ImageGcdsModel", "fails", "(ZZZ)Z"⟩, 25) := ⟨⟨by decide +kernel, by decide +kernel⟩, List.mem_of_getElem? (i := 784) (by decide +kernel), List.mem_of_getElem? (i := 879) (by decide +kernel), List.mem_of_getElem? (i := 880) (by decide +kernel)⟩
theorem lw_p27 : lw_okq (⟨"ImageGcdsModel", "clear", "(I)V"⟩, 25) := ⟨⟨by decide +kernel, by decide +kernel⟩, List.mem_of_getElem? (i := 784) (by decide +kernel), List.mem_of_getElem? (i := 883) (by decide +kernel), List.mem_of_getElem? (i := 884) (by decide +kernel)⟩
theorem lw_p28 : lw_okq (⟨"ImageGcdsModel", "made", "(I)I"⟩, 25) := ⟨⟨by decide +kernel, by decide +kernel⟩, List.mem_of_getElem? (i := 784) (by decide +kernel), List.mem_of_getElem? (i := 887) (by decide +kernel), List.mem_of_getElem? (i := 888) (by decide +kernel)⟩
theorem lw_p29 : lw_okq (⟨"ImageGcdsModel", "copy", "(II)V"⟩, 25) := ⟨⟨by decide +kernel, by decide +kernel⟩, List.mem_of_getElem? (i := 784) (by decide +kernel), List.mem_of_getElem? (i := 891) (by decide +kernel), List.mem_of_getElem? (i := 892) (by decide +kernel)⟩
theorem lw_p30 : lw_okq (⟨"ImageGcdsModel", "isPoly", "(I)Z"⟩, 25) := ⟨⟨by decide +kernel, by decide +kernel⟩, List.mem_of_getElem? (i := 784) (by decide +kernel), List.mem_of_getElem? (i := 899) (by decide +kernel), List.mem_of_getElem? (i := 900) (by decide +kernel)⟩
theorem lw_p31 : lw_okq (⟨"ImageGcdsModel", "areNot", "(II)Z"⟩, 25) := ⟨⟨by decide +kernel, by decide +kernel⟩, List.mem_of_getElem? (i := 784) (by decide +kernel), List.mem_of_getElem? (i := 914) (by decide +kernel), List.mem_of_getElem? (i := 915) (by decide +kernel)⟩
def lw_privs_2 : List (MethodName × Nat) := [(⟨"ImageGcds$Images", "search", "(ILImageGcds$Floor;[I)V"⟩, 5), (⟨"ImageGcds$Curve", "raise", "(II)V"⟩, 3), (⟨"ImageGcds$Curve", "multiplyProduct", "(I)V"⟩, 3), (⟨"ImageGcds", "requireLetter", "(I)V"⟩, 4), (⟨"ImageGcds", "requireLowResultant", "(LImageGcds$Poly;LImageGcds$Poly;I)V"⟩, 4), (⟨"ImageGcds$Bench", "spreadInFront", "(LImageGcds$Poly;I[I)V"⟩, 7), (⟨"ImageGcds$Images", "eliminate", "(I[I[I[I)V"⟩, 5), (⟨"ImageGcds$Bench", "gatheredBeside", "([II)LImageGcds$Poly;"⟩, 7), (⟨"ImageGcds$Bench", "divide", "([I[I[I)V"⟩, 7), (⟨"ImageGcdsModel", "isFull", "()Z"⟩, 25), (⟨"ImageGcdsModel", "fails", "(ZZZ)Z"⟩, 25), (⟨"ImageGcdsModel", "clear", "(I)V"⟩, 25), (⟨"ImageGcdsModel", "made", "(I)I"⟩, 25), (⟨"ImageGcdsModel", "copy", "(II)V"⟩, 25), (⟨"ImageGcdsModel", "isPoly", "(I)Z"⟩, 25), (⟨"ImageGcdsModel", "areNot", "(II)Z"⟩, 25)]
theorem lw_r2 : ∀ q ∈ lw_privs_2, lw_okq q := List.forall_mem_cons.mpr ⟨lw_p16, List.forall_mem_cons.mpr ⟨lw_p17, List.forall_mem_cons.mpr ⟨lw_p18, List.forall_mem_cons.mpr ⟨lw_p19, List.forall_mem_cons.mpr ⟨lw_p20, List.forall_mem_cons.mpr ⟨lw_p21, List.forall_mem_cons.mpr ⟨lw_p22, List.forall_mem_cons.mpr ⟨lw_p23, List.forall_mem_cons.mpr ⟨lw_p24, List.forall_mem_cons.mpr ⟨lw_p25, List.forall_mem_cons.mpr ⟨lw_p26, List.forall_mem_cons.mpr ⟨lw_p27, List.forall_mem_cons.mpr ⟨lw_p28, List.forall_mem_cons.mpr ⟨lw_p29, List.forall_mem_cons.mpr ⟨lw_p30, List.forall_mem_cons.mpr ⟨lw_p31, fun _ h => absurd h List.not_mem_nil⟩⟩⟩⟩⟩⟩⟩⟩⟩⟩⟩⟩⟩⟩⟩⟩
theorem lw_p32 : lw_okq (⟨"ImageGcdsModel", "fits", "(II)Z"⟩, 25) := ⟨⟨by decide +kernel, by decide +kernel⟩, List.mem_of_getElem? (i := 784) (by decide +kernel), List.mem_of_getElem? (i := 923) (by decide +kernel), List.mem_of_getElem? (i := 924) (by decide +kernel)⟩
theorem lw_p33 : lw_okq (⟨"ImageGcdsModel", "degreeOf", "(II)I"⟩, 25) := ⟨⟨by decide +kernel, by decide +kernel⟩, List.mem_of_getElem? (i := 784) (by decide +kernel), List.mem_of_getElem? (i := 927) (by decide +kernel), List.mem_of_getElem? (i := 928) (by decide +kernel)⟩
theorem lw_p34 : lw_okq (⟨"ImageGcdsModel", "isZero", "(I)Z"⟩, 25) := ⟨⟨by decide +kernel, by decide +kernel⟩, List.mem_of_getElem? (i := 784) (by decide +kernel), List.mem_of_getElem? (i := 934) (by decide +kernel), List.mem_of_getElem? (i := 935) (by decide +kernel)⟩
theorem lw_p35 : lw_okq (⟨"ImageGcdsModel", "head", "(I)I"⟩, 25) := ⟨⟨by decide +kernel, by decide +kernel⟩, List.mem_of_getElem? (i := 784) (by decide +kernel), List.mem_of_getElem? (i := 938) (by decide +kernel), List.mem_of_getElem? (i := 939) (by decide +kernel)⟩
theorem lw_p36 : lw_okq (⟨"ImageGcdsModel", "product", "(III)V"⟩, 25) := ⟨⟨by decide +kernel, by decide +kernel⟩, List.mem_of_getElem? (i := 784) (by decide +kernel), List.mem_of_getElem? (i := 945) (by decide +kernel), List.mem_of_getElem? (i := 946) (by decide +kernel)⟩
theorem lw_p37 : lw_okq (⟨"ImageGcdsModel", "divides", "(II)Z"⟩, 25) := ⟨⟨by decide +kernel, by decide +kernel⟩, List.mem_of_getElem? (i := 784) (by decide +kernel), List.mem_of_getElem? (i := 953) (by decide +kernel), List.mem_of_getElem? (i := 954) (by decide +kernel)⟩
theorem lw_p38 : lw_okq (⟨"ImageGcdsModel", "divisor", "(III)V"⟩, 25) := ⟨⟨by decide +kernel, by decide +kernel⟩, List.mem_of_getElem? (i := 784) (by decide +kernel), List.mem_of_getElem? (i := 963) (by decide +kernel), List.mem_of_getElem? (i := 964) (by decide +kernel)⟩
theorem lw_p39 : lw_okq (⟨"ImageGcdsModel", "clearTwo", "(I)V"⟩, 25) := ⟨⟨by decide +kernel, by decide +kernel⟩, List.mem_of_getElem? (i := 784) (by decide +kernel), List.mem_of_getElem? (i := 967) (by decide +kernel), List.mem_of_getElem? (i := 968) (by decide +kernel)⟩
theorem lw_p40 : lw_okq (⟨"ImageGcdsModel", "allOf", "(I)V"⟩, 25) := ⟨⟨by decide +kernel, by decide +kernel⟩, List.mem_of_getElem? (i := 784) (by decide +kernel), List.mem_of_getElem? (i := 971) (by decide +kernel), List.mem_of_getElem? (i := 972) (by decide +kernel)⟩
theorem lw_p41 : lw_okq (⟨"ImageGcdsModel", "isNumberTwo", "(I)Z"⟩, 25) := ⟨⟨by decide +kernel, by decide +kernel⟩, List.mem_of_getElem? (i := 784) (by decide +kernel), List.mem_of_getElem? (i := 975) (by decide +kernel), List.mem_of_getElem? (i := 976) (by decide +kernel)⟩
theorem lw_p42 : lw_okq (⟨"ImageGcdsModel", "degreeY", "(I)I"⟩, 25) := ⟨⟨by decide +kernel, by decide +kernel⟩, List.mem_of_getElem? (i := 784) (by decide +kernel), List.mem_of_getElem? (i := 979) (by decide +kernel), List.mem_of_getElem? (i := 980) (by decide +kernel)⟩
theorem lw_p43 : lw_okq (⟨"ImageGcdsModel", "degreeZ", "(I)I"⟩, 25) := ⟨⟨by decide +kernel, by decide +kernel⟩, List.mem_of_getElem? (i := 784) (by decide +kernel), List.mem_of_getElem? (i := 983) (by decide +kernel), List.mem_of_getElem? (i := 984) (by decide +kernel)⟩
theorem lw_p44 : lw_okq (⟨"ImageGcdsModel", "squareOf", "(III)V"⟩, 25) := ⟨⟨by decide +kernel, by decide +kernel⟩, List.mem_of_getElem? (i := 784) (by decide +kernel), List.mem_of_getElem? (i := 987) (by decide +kernel), List.mem_of_getElem? (i := 988) (by decide +kernel)⟩
theorem lw_p45 : lw_okq (⟨"ImageGcdsModel", "goOn", "()V"⟩, 25) := ⟨⟨by decide +kernel, by decide +kernel⟩, List.mem_of_getElem? (i := 784) (by decide +kernel), List.mem_of_getElem? (i := 991) (by decide +kernel), List.mem_of_getElem? (i := 992) (by decide +kernel)⟩
theorem lw_p46 : lw_okq (⟨"ImageGcdsModel", "copyTwo", "(II)V"⟩, 25) := ⟨⟨by decide +kernel, by decide +kernel⟩, List.mem_of_getElem? (i := 784) (by decide +kernel), List.mem_of_getElem? (i := 995) (by decide +kernel), List.mem_of_getElem? (i := 996) (by decide +kernel)⟩
theorem lw_p47 : lw_okq (⟨"ImageGcdsModel", "commonTwo", "()V"⟩, 25) := ⟨⟨by decide +kernel, by decide +kernel⟩, List.mem_of_getElem? (i := 784) (by decide +kernel), List.mem_of_getElem? (i := 999) (by decide +kernel), List.mem_of_getElem? (i := 1000) (by decide +kernel)⟩
def lw_privs_3 : List (MethodName × Nat) := [(⟨"ImageGcdsModel", "fits", "(II)Z"⟩, 25), (⟨"ImageGcdsModel", "degreeOf", "(II)I"⟩, 25), (⟨"ImageGcdsModel", "isZero", "(I)Z"⟩, 25), (⟨"ImageGcdsModel", "head", "(I)I"⟩, 25), (⟨"ImageGcdsModel", "product", "(III)V"⟩, 25), (⟨"ImageGcdsModel", "divides", "(II)Z"⟩, 25), (⟨"ImageGcdsModel", "divisor", "(III)V"⟩, 25), (⟨"ImageGcdsModel", "clearTwo", "(I)V"⟩, 25), (⟨"ImageGcdsModel", "allOf", "(I)V"⟩, 25), (⟨"ImageGcdsModel", "isNumberTwo", "(I)Z"⟩, 25), (⟨"ImageGcdsModel", "degreeY", "(I)I"⟩, 25), (⟨"ImageGcdsModel", "degreeZ", "(I)I"⟩, 25), (⟨"ImageGcdsModel", "squareOf", "(III)V"⟩, 25), (⟨"ImageGcdsModel", "goOn", "()V"⟩, 25), (⟨"ImageGcdsModel", "copyTwo", "(II)V"⟩, 25), (⟨"ImageGcdsModel", "commonTwo", "()V"⟩, 25)]
theorem lw_r3 : ∀ q ∈ lw_privs_3, lw_okq q := List.forall_mem_cons.mpr ⟨lw_p32, List.forall_mem_cons.mpr ⟨lw_p33, List.forall_mem_cons.mpr ⟨lw_p34, List.forall_mem_cons.mpr ⟨lw_p35, List.forall_mem_cons.mpr ⟨lw_p36, List.forall_mem_cons.mpr ⟨lw_p37, List.forall_mem_cons.mpr ⟨lw_p38, List.forall_mem_cons.mpr ⟨lw_p39, List.forall_mem_cons.mpr ⟨lw_p40, List.forall_mem_cons.mpr ⟨lw_p41, List.forall_mem_cons.mpr ⟨lw_p42, List.forall_mem_cons.mpr ⟨lw_p43, List.forall_mem_cons.mpr ⟨lw_p44, List.forall_mem_cons.mpr ⟨lw_p45, List.forall_mem_cons.mpr ⟨lw_p46, List.forall_mem_cons.mpr ⟨lw_p47, fun _ h => absurd h List.not_mem_nil⟩⟩⟩⟩⟩⟩⟩⟩⟩⟩⟩⟩⟩⟩⟩⟩
theorem lw_p48 : lw_okq (⟨"ImageGcdsModel", "images", "(I)Z"⟩, 25) := ⟨⟨by decide +kernel, by decide +kernel⟩, List.mem_of_getElem? (i := 784) (by decide +kernel), List.mem_of_getElem? (i := 1003) (by decide +kernel), List.mem_of_getElem? (i := 1004) (by decide +kernel)⟩
theorem lw_p49 : lw_okq (⟨"ImageGcdsModel", "rowDegree", "(II)I"⟩, 25) := ⟨⟨by decide +kernel, by decide +kernel⟩, List.mem_of_getElem? (i := 784) (by decide +kernel), List.mem_of_getElem? (i := 1007) (by decide +kernel), List.mem_of_getElem? (i := 1008) (by decide +kernel)⟩
theorem lw_p50 : lw_okq (⟨"ImageGcdsModel", "valueAt", "(III)I"⟩, 25) := ⟨⟨by decide +kernel, by decide +kernel⟩, List.mem_of_getElem? (i := 784) (by decide +kernel), List.mem_of_getElem? (i := 1011) (by decide +kernel), List.mem_of_getElem? (i := 1012) (by decide +kernel)⟩
theorem lw_p51 : lw_okq (⟨"ImageGcdsModel", "none", "()V"⟩, 25) := ⟨⟨by decide +kernel, by decide +kernel⟩, List.mem_of_getElem? (i := 784) (by decide +kernel), List.mem_of_getElem? (i := 1015) (by decide +kernel), List.mem_of_getElem? (i := 1016) (by decide +kernel)⟩
theorem lw_p52 : lw_okq (⟨"ImageGcdsModel", "common", "()V"⟩, 25) := ⟨⟨by decide +kernel, by decide +kernel⟩, List.mem_of_getElem? (i := 784) (by decide +kernel), List.mem_of_getElem? (i := 1019) (by decide +kernel), List.mem_of_getElem? (i := 1020) (by decide +kernel)⟩
theorem lw_p53 : lw_okq (⟨"ImageGcdsModel", "reduce", "()V"⟩, 25) := ⟨⟨by decide +kernel, by decide +kernel⟩, List.mem_of_getElem? (i := 784) (by decide +kernel), List.mem_of_getElem? (i := 1023) (by decide +kernel), List.mem_of_getElem? (i := 1024) (by decide +kernel)⟩
theorem lw_p54 : lw_okq (⟨"ImageGcdsModel", "trimA", "()V"⟩, 25) := ⟨⟨by decide +kernel, by decide +kernel⟩, List.mem_of_getElem? (i := 784) (by decide +kernel), List.mem_of_getElem? (i := 1027) (by decide +kernel), List.mem_of_getElem? (i := 1028) (by decide +kernel)⟩
theorem lw_p55 : lw_okq (⟨"ImageGcdsModel", "change", "()V"⟩, 25) := ⟨⟨by decide +kernel, by decide +kernel⟩, List.mem_of_getElem? (i := 784) (by decide +kernel), List.mem_of_getElem? (i := 1031) (by decide +kernel), List.mem_of_getElem? (i := 1032) (by decide +kernel)⟩
theorem lw_p56 : lw_okq (⟨"ImageGcdsModel", "together", "(I)V"⟩, 25) := ⟨⟨by decide +kernel, by decide +kernel⟩, List.mem_of_getElem? (i := 784) (by decide +kernel), List.mem_of_getElem? (i := 1035) (by decide +kernel), List.mem_of_getElem? (i := 1036) (by decide +kernel)⟩
theorem lw_p57 : lw_okq (⟨"ImageGcdsModel", "contentTo", "(I)V"⟩, 25) := ⟨⟨by decide +kernel, by decide +kernel⟩, List.mem_of_getElem? (i := 784) (by decide +kernel), List.mem_of_getElem? (i := 1039) (by decide +kernel), List.mem_of_getElem? (i := 1040) (by decide +kernel)⟩
theorem lw_p58 : lw_okq (⟨"ImageGcdsModel", "rowToB", "(II)V"⟩, 25) := ⟨⟨by decide +kernel, by decide +kernel⟩, List.mem_of_getElem? (i := 784) (by decide +kernel), List.mem_of_getElem? (i := 1043) (by decide +kernel), List.mem_of_getElem? (i := 1044) (by decide +kernel)⟩
theorem lw_p59 : lw_okq (⟨"ImageGcdsModel", "trimB", "()V"⟩, 25) := ⟨⟨by decide +kernel, by decide +kernel⟩, List.mem_of_getElem? (i := 784) (by decide +kernel), List.mem_of_getElem? (i := 1047) (by decide +kernel), List.mem_of_getElem? (i := 1048) (by decide +kernel)⟩
theorem lw_p60 : lw_okq (⟨"ImageGcdsModel", "withoutContent", "(I)V"⟩, 25) := ⟨⟨by decide +kernel, by decide +kernel⟩, List.mem_of_getElem? (i := 784) (by decide +kernel), List.mem_of_getElem? (i := 1051) (by decide +kernel), List.mem_of_getElem? (i := 1052) (by decide +kernel)⟩
theorem lw_p61 : lw_okq (⟨"ImageGcdsModel", "dividesTwo", "(II)Z"⟩, 25) := ⟨⟨by decide +kernel, by decide +kernel⟩, List.mem_of_getElem? (i := 784) (by decide +kernel), List.mem_of_getElem? (i := 1055) (by decide +kernel), List.mem_of_getElem? (i := 1056) (by decide +kernel)⟩
theorem lw_p62 : lw_okq (⟨"ImageGcdsModel", "withContent", "()V"⟩, 25) := ⟨⟨by decide +kernel, by decide +kernel⟩, List.mem_of_getElem? (i := 784) (by decide +kernel), List.mem_of_getElem? (i := 1059) (by decide +kernel), List.mem_of_getElem? (i := 1060) (by decide +kernel)⟩
theorem lw_p63 : lw_okq (⟨"ImageGcdsModel", "parts", "(III)Z"⟩, 25) := ⟨⟨by decide +kernel, by decide +kernel⟩, List.mem_of_getElem? (i := 784) (by decide +kernel), List.mem_of_getElem? (i := 1064) (by decide +kernel), List.mem_of_getElem? (i := 1065) (by decide +kernel)⟩
def lw_privs_4 : List (MethodName × Nat) := [(⟨"ImageGcdsModel", "images", "(I)Z"⟩, 25), (⟨"ImageGcdsModel", "rowDegree", "(II)I"⟩, 25), (⟨"ImageGcdsModel", "valueAt", "(III)I"⟩, 25), (⟨"ImageGcdsModel", "none", "()V"⟩, 25), (⟨"ImageGcdsModel", "common", "()V"⟩, 25), (⟨"ImageGcdsModel", "reduce", "()V"⟩, 25), (⟨"ImageGcdsModel", "trimA", "()V"⟩, 25), (⟨"ImageGcdsModel", "change", "()V"⟩, 25), (⟨"ImageGcdsModel", "together", "(I)V"⟩, 25), (⟨"ImageGcdsModel", "contentTo", "(I)V"⟩, 25), (⟨"ImageGcdsModel", "rowToB", "(II)V"⟩, 25), (⟨"ImageGcdsModel", "trimB", "()V"⟩, 25), (⟨"ImageGcdsModel", "withoutContent", "(I)V"⟩, 25), (⟨"ImageGcdsModel", "dividesTwo", "(II)Z"⟩, 25), (⟨"ImageGcdsModel", "withContent", "()V"⟩, 25), (⟨"ImageGcdsModel", "parts", "(III)Z"⟩, 25)]
theorem lw_r4 : ∀ q ∈ lw_privs_4, lw_okq q := List.forall_mem_cons.mpr ⟨lw_p48, List.forall_mem_cons.mpr ⟨lw_p49, List.forall_mem_cons.mpr ⟨lw_p50, List.forall_mem_cons.mpr ⟨lw_p51, List.forall_mem_cons.mpr ⟨lw_p52, List.forall_mem_cons.mpr ⟨lw_p53, List.forall_mem_cons.mpr ⟨lw_p54, List.forall_mem_cons.mpr ⟨lw_p55, List.forall_mem_cons.mpr ⟨lw_p56, List.forall_mem_cons.mpr ⟨lw_p57, List.forall_mem_cons.mpr ⟨lw_p58, List.forall_mem_cons.mpr ⟨lw_p59, List.forall_mem_cons.mpr ⟨lw_p60, List.forall_mem_cons.mpr ⟨lw_p61, List.forall_mem_cons.mpr ⟨lw_p62, List.forall_mem_cons.mpr ⟨lw_p63, fun _ h => absurd h List.not_mem_nil⟩⟩⟩⟩⟩⟩⟩⟩⟩⟩⟩⟩⟩⟩⟩⟩
theorem lw_p64 : lw_okq (⟨"ImageGcdsModel", "planes", "(III)V"⟩, 25) := ⟨⟨by decide +kernel, by decide +kernel⟩, List.mem_of_getElem? (i := 784) (by decide +kernel), List.mem_of_getElem? (i := 1068) (by decide +kernel), List.mem_of_getElem? (i := 1069) (by decide +kernel)⟩
theorem lw_p65 : lw_okq (⟨"ImageGcdsModel", "imageAt", "(IIIII)V"⟩, 25) := ⟨⟨by decide +kernel, by decide +kernel⟩, List.mem_of_getElem? (i := 784) (by decide +kernel), List.mem_of_getElem? (i := 1072) (by decide +kernel), List.mem_of_getElem? (i := 1073) (by decide +kernel)⟩
theorem lw_p66 : lw_okq (⟨"ImageGcdsModel", "valueOfPlane", "(ZII)I"⟩, 25) := ⟨⟨by decide +kernel, by decide +kernel⟩, List.mem_of_getElem? (i := 784) (by decide +kernel), List.mem_of_getElem? (i := 1076) (by decide +kernel), List.mem_of_getElem? (i := 1077) (by decide +kernel)⟩
theorem lw_p67 : lw_okq (⟨"ImageGcdsModel", "build", "(II)Z"⟩, 25) := ⟨⟨by decide +kernel, by decide +kernel⟩, List.mem_of_getElem? (i := 784) (by decide +kernel), List.mem_of_getElem? (i := 1080) (by decide +kernel), List.mem_of_getElem? (i := 1081) (by decide +kernel)⟩
theorem lw_p68 : lw_okq (⟨"ImageGcdsModel", "rowOfGrid", "(I)V"⟩, 25) := ⟨⟨by decide +kernel, by decide +kernel⟩, List.mem_of_getElem? (i := 784) (by decide +kernel), List.mem_of_getElem? (i := 1084) (by decide +kernel), List.mem_of_getElem? (i := 1085) (by decide +kernel)⟩
theorem lw_p69 : lw_okq (⟨"ImageGcdsModel", "monic", "(I)V"⟩, 25) := ⟨⟨by decide +kernel, by decide +kernel⟩, List.mem_of_getElem? (i := 784) (by decide +kernel), List.mem_of_getElem? (i := 1088) (by decide +kernel), List.mem_of_getElem? (i := 1089) (by decide +kernel)⟩
theorem lw_p70 : lw_okq (⟨"ImageGcdsModel", "isLetter", "(I)Z"⟩, 25) := ⟨⟨by decide +kernel, by decide +kernel⟩, List.mem_of_getElem? (i := 784) (by decide +kernel), List.mem_of_getElem? (i := 1096) (by decide +kernel), List.mem_of_getElem? (i := 1097) (by decide +kernel)⟩
theorem lw_p71 : lw_okq (⟨"ImageGcdsModel", "isTooHigh", "(III)Z"⟩, 25) := ⟨⟨by decide +kernel, by decide +kernel⟩, List.mem_of_getElem? (i := 784) (by decide +kernel), List.mem_of_getElem? (i := 1100) (by decide +kernel), List.mem_of_getElem? (i := 1101) (by decide +kernel)⟩
theorem lw_p72 : lw_okq (⟨"ImageGcdsModel", "bound", "(IIII)I"⟩, 25) := ⟨⟨by decide +kernel, by decide +kernel⟩, List.mem_of_getElem? (i := 784) (by decide +kernel), List.mem_of_getElem? (i := 1104) (by decide +kernel), List.mem_of_getElem? (i := 1105) (by decide +kernel)⟩
theorem lw_p73 : lw_okq (⟨"ImageGcdsModel", "atLeastNone", "(I)I"⟩, 25) := ⟨⟨by decide +kernel, by decide +kernel⟩, List.mem_of_getElem? (i := 784) (by decide +kernel), List.mem_of_getElem? (i := 1108) (by decide +kernel), List.mem_of_getElem? (i := 1109) (by decide +kernel)⟩
theorem lw_p74 : lw_okq (⟨"ImageGcdsModel", "resultantAt", "(IIIII)I"⟩, 25) := ⟨⟨by decide +kernel, by decide +kernel⟩, List.mem_of_getElem? (i := 784) (by decide +kernel), List.mem_of_getElem? (i := 1112) (by decide +kernel), List.mem_of_getElem? (i := 1113) (by decide +kernel)⟩
theorem lw_p75 : lw_okq (⟨"ImageGcdsModel", "valueOf", "(IIIII)I"⟩, 25) := ⟨⟨by decide +kernel, by decide +kernel⟩, List.mem_of_getElem? (i := 784) (by decide +kernel), List.mem_of_getElem? (i := 1116) (by decide +kernel), List.mem_of_getElem? (i := 1117) (by decide +kernel)⟩
theorem lw_p76 : lw_okq (⟨"ImageGcdsModel", "determinant", "(I)I"⟩, 25) := ⟨⟨by decide +kernel, by decide +kernel⟩, List.mem_of_getElem? (i := 784) (by decide +kernel), List.mem_of_getElem? (i := 1120) (by decide +kernel), List.mem_of_getElem? (i := 1121) (by decide +kernel)⟩
theorem lw_p77 : lw_okq (⟨"ImageGcdsModel", "slopeOf", "(III)V"⟩, 25) := ⟨⟨by decide +kernel, by decide +kernel⟩, List.mem_of_getElem? (i := 784) (by decide +kernel), List.mem_of_getElem? (i := 1128) (by decide +kernel), List.mem_of_getElem? (i := 1129) (by decide +kernel)⟩
theorem lw_p78 : lw_okq (⟨"ImageGcdsModel", "lower", "(II)V"⟩, 25) := ⟨⟨by decide +kernel, by decide +kernel⟩, List.mem_of_getElem? (i := 784) (by decide +kernel), List.mem_of_getElem? (i := 1141) (by decide +kernel), List.mem_of_getElem? (i := 1142) (by decide +kernel)⟩
theorem lw_p79 : lw_okq (⟨"ImageGcdsModel", "termsOf", "(I)I"⟩, 25) := ⟨⟨by decide +kernel, by decide +kernel⟩, List.mem_of_getElem? (i := 784) (by decide +kernel), List.mem_of_getElem? (i := 1157) (by decide +kernel), List.mem_of_getElem? (i := 1158) (by decide +kernel)⟩
def lw_privs_5 : List (MethodName × Nat) := [(⟨"ImageGcdsModel", "planes", "(III)V"⟩, 25), (⟨"ImageGcdsModel", "imageAt", "(IIIII)V"⟩, 25), (⟨"ImageGcdsModel", "valueOfPlane", "(ZII)I"⟩, 25), (⟨"ImageGcdsModel", "build", "(II)Z"⟩, 25), (⟨"ImageGcdsModel", "rowOfGrid", "(I)V"⟩, 25), (⟨"ImageGcdsModel", "monic", "(I)V"⟩, 25), (⟨"ImageGcdsModel", "isLetter", "(I)Z"⟩, 25), (⟨"ImageGcdsModel", "isTooHigh", "(III)Z"⟩, 25), (⟨"ImageGcdsModel", "bound", "(IIII)I"⟩, 25), (⟨"ImageGcdsModel", "atLeastNone", "(I)I"⟩, 25), (⟨"ImageGcdsModel", "resultantAt", "(IIIII)I"⟩, 25), (⟨"ImageGcdsModel", "valueOf", "(IIIII)I"⟩, 25), (⟨"ImageGcdsModel", "determinant", "(I)I"⟩, 25), (⟨"ImageGcdsModel", "slopeOf", "(III)V"⟩, 25), (⟨"ImageGcdsModel", "lower", "(II)V"⟩, 25), (⟨"ImageGcdsModel", "termsOf", "(I)I"⟩, 25)]
theorem lw_r5 : ∀ q ∈ lw_privs_5, lw_okq q := List.forall_mem_cons.mpr ⟨lw_p64, List.forall_mem_cons.mpr ⟨lw_p65, List.forall_mem_cons.mpr ⟨lw_p66, List.forall_mem_cons.mpr ⟨lw_p67, List.forall_mem_cons.mpr ⟨lw_p68, List.forall_mem_cons.mpr ⟨lw_p69, List.forall_mem_cons.mpr ⟨lw_p70, List.forall_mem_cons.mpr ⟨lw_p71, List.forall_mem_cons.mpr ⟨lw_p72, List.forall_mem_cons.mpr ⟨lw_p73, List.forall_mem_cons.mpr ⟨lw_p74, List.forall_mem_cons.mpr ⟨lw_p75, List.forall_mem_cons.mpr ⟨lw_p76, List.forall_mem_cons.mpr ⟨lw_p77, List.forall_mem_cons.mpr ⟨lw_p78, List.forall_mem_cons.mpr ⟨lw_p79, fun _ h => absurd h List.not_mem_nil⟩⟩⟩⟩⟩⟩⟩⟩⟩⟩⟩⟩⟩⟩⟩⟩
def lw_privs : List (MethodName × Nat) := lw_privs_1 ++ (lw_privs_2 ++ (lw_privs_3 ++ (lw_privs_4 ++ (lw_privs_5))))
def lw_tbl : List Cond := k2_sels lw_privs ++ tables_1
theorem lw_privs_ok : ∀ q ∈ lw_privs, lw_okq q := by
  show ∀ q ∈ lw_privs_1 ++ (lw_privs_2 ++ (lw_privs_3 ++ (lw_privs_4 ++ (lw_privs_5)))), lw_okq q
  exact List.forall_mem_append.mpr ⟨lw_r1, List.forall_mem_append.mpr ⟨lw_r2, List.forall_mem_append.mpr ⟨lw_r3, List.forall_mem_append.mpr ⟨lw_r4, lw_r5⟩⟩⟩⟩
end
section
/-! THROWS: a contract for a method that ends by throwing a new object of one class and writes nothing old; the row that throws it; a call of such a method, caught or not. -/
/-- at x of t's heap lies a plain object of the class C, as u's tables have it -/
def th_O (C : String) (u t : State) (x : Addr) : Prop := ∃ cell : Cell, t.heap[x]? = some cell ∧ cell.vm = .none ∧ u.vm.findClass C = some cell.cls
def th_E (C : String) (mc ms : Nat) (st : State) (o : Outcome) (t : State) : Prop :=
  ∃ x : Addr, o = .threw x ∧ th_O C st t x ∧ st.WarmedH t.vm ∧ st.sameButNew ({ t with vm := st.vm } : State) [] mc ms
def th_Met (l : Launch) (y : MethodName) (ws : List Cond) (rm : Room) (Pc : Array Value → State → Prop) (C : String) (mc ms : Nat) : Prop :=
  MetFree l y (headSpec ws rm) Pc (fun _ _ _ _ _ => True) (fun _ st o t => th_E C mc ms st o t)
def th_Q (below : List Frame) (C : String) (s : State) (mc ms : Nat) : State → Prop := fun t => ∃ o, t.status = .running ∧ Ended t below o ∧ th_E C mc ms s o t
theorem th_ofW {l : Launch} {y : MethodName} {ws ws' : List Cond} {rm : Room} {Pc : Array Value → State → Prop} {C : String} {mc ms : Nat} {cc : ByteArray} {maxL : Nat} {ret : Option FieldType}
    (hy : plainName y.cls = true) (hw : ws = Cond.code y cc maxL ret :: ws')
    (body : ∀ p e s m args below meth c s₁, BodyLoose p l y (headSpec ws rm) cc maxL ret e s m args below meth c s₁ → c.maxLocals = maxL → c.exceptionTable.toList = [] → Pc args s →
      W p l e (headSpec ws rm).room s m args below meth c s.heap [] 0 0 (th_Q below C s mc ms) (entryFrame m args maxL)) : th_Met l y ws rm Pc C mc ms := by
  refine MetFree.of_bodyS (code := cc) (maxLocals := maxL) (ret := ret) hy ?_ ?_
  · intro args s m h hn
    obtain ⟨meth, c, h1, h2, h3, h4, h5, h6, -, -⟩ := Cond.code_spec hn (atoms_spec (ws := ws) h _ (by rw [hw]; exact List.mem_cons_self))
    exact ⟨meth, c, h1, h2, h3, h4, h5, h6⟩
  · intro p e s m args below meth c s₁ B hml hP _
    have hh0 : s₁.heap = s.heap := by rw [B.state]; rfl
    have hno : c.exceptionTable.isEmpty = true := B.noHandlers (atoms_spec (ws := ws) B.pre _ (by rw [hw]; exact List.mem_cons_self))
    have hno2 : c.exceptionTable.toList = [] := by simpa using hno
    obtain ⟨t, a1, o, b1, b2, b3⟩ := body p e s m args below meth c s₁ B hml hno2 hP s₁ hh0 (Stand.of_body B)
    exact ⟨t, o, a1, b1, b2, b3⟩
section TH
variable {p : Program} {l : Launch} {e : Env} {R : Room} {s : State} {m : MethodId} {args : Array Value} {below : List Frame} {meth : Method} {c : Code} {H : Heap} {locs : List Loc} {cells slots : Nat} {Q : State → Prop}
theorem th_off (hl : l.stackTraces = false) (ha : l.admits e) : e.platform.stackTraces = false := by
  rw [ha.platform]; exact hl
/-- from the constructor's call to the end: the object is made, and thrown -/
theorem th_throw {cc : ByteArray} {nL : Nat} (hexec : p.tables.exec = Jvm.exec) (hb : c.code = cc) (hml : c.maxLocals = nL) (htr : l.stackTraces = false) (hno : c.exceptionTable.toList = [])
    {own cls : String} {names : List String} {ic : Nat} (hown : s.vm.findClass own = some m.cls) (hcls : Bundle.fit cls = true) (hnames : ∀ n ∈ names, Bundle.fit n = true)
    (h : ∀ a ∈ Bundle.ownAtoms own ic cls names, a.before args s = true) {a : Addr} {cX : ClassId} {kX : Class} (hfX : s.vm.findClass cls = some cX) (hkX : s.vm.classes[cX]? = some kX)
    (hcell : H[a]? = some (blank cX kX)) (hnew : s.heap.size ≤ a) {b pc : Nat} {ls : Array Slot} (hsz : ls.size = nL)
    (hd6 : decode cc pc = .ok (.invokespecial ic, 3)) (hd9 : decode cc (pc + 3) = .ok (.athrow, 1)) (hRf : names.length + 3 < R.frames) (hRl : 13 * (names.length + 1) + 43 ≤ R.locals) (hlocks : meth.locks = false) :
    W p l e R s m args below meth c H [] cells slots (th_Q below cls s cells slots) (F0 m pc ls [.ref b, .ref a, .ref a]) := by
  intro T hT X
  obtain ⟨U, h1, h2, h3, h4, h5, ce, h6, h7⟩ := X.ctorThrowS hexec (th_off htr X.admits) hown hcls hnames h (fun x hx => by cases hx) hfX hkX (by rw [hT]; exact hcell) hnew (msg := .ref b) rfl
    (g := F0 m pc ls [.ref b, .ref a, .ref a]) rfl (by rw [hml]; exact hsz) rfl rfl (rest := []) rfl (by rw [hb]; exact hd6) (by rw [hb]; exact hd9) (fun x hx => by rw [hno] at hx; cases hx) hRf
    (by
      have e0 : (F0 m pc ls [.ref b, .ref a, .ref a]).monitorRoom = 0 := rfl
      simp only [e0, List.map_cons, List.map_nil, List.sum_cons, List.sum_nil, Value.category]
      omega) hlocks
  exact ⟨U, h1, .threw a, h2, h3, a, rfl, ⟨ce, h6, h7.vm, h7.cls⟩, h4, h5⟩
/-- throw new X("..") from its first instruction -/
theorem th_new {cc : ByteArray} {nL : Nat} (hexec : p.tables.exec = Jvm.exec) (hb : c.code = cc) (hml : c.maxLocals = nL) (htr : l.stackTraces = false) (hno : c.exceptionTable.toList = [])
    {own cls tx : String} {names : List String} {ic ix ik b : Nat} (hown : s.vm.findClass own = some m.cls) (hcls : Bundle.fit cls = true) (hnames : ∀ n ∈ names, Bundle.fit n = true)
    (h : ∀ a ∈ Bundle.ownAtoms own ic cls names, a.before args s = true) (hcl : (Cond.classLink own ix cls).before args s = true) (hins : (Cond.instantiable cls 6).before args s = true) (hini : (Cond.initialized cls).before args s = true)
    (hZ : vk_R own ik tx b s) (hH : s.heap.size ≤ H.size) {pc : Nat} {ls : Array Slot} (hsz : ls.size = nL)
    (hd0 : decode cc pc = .ok (.new ix, 3)) (hd3 : decode cc (pc + 3) = .ok (.dup, 1)) (hd4 : decode cc (pc + 4) = .ok (.ldc ik, 2)) (hd6 : decode cc (pc + 6) = .ok (.invokespecial ic, 3)) (hd9 : decode cc (pc + 9) = .ok (.athrow, 1))
    (hc : cells + 1 ≤ R.cells) (hs : slots + 6 ≤ R.slots) (hRf : names.length + 3 < R.frames) (hRl : 13 * (names.length + 1) + 43 ≤ R.locals) (hlocks : meth.locks = false) :
    W p l e R s m args below meth c H [] cells slots (th_Q below cls s (cells + 1) (slots + 6)) (F0 m pc ls []) := by
  obtain ⟨cX, hfX⟩ : ∃ cX, s.vm.findClass cls = some cX := by
    obtain ⟨c1, k1, hc1, -⟩ := Cond.instantiable_spec hins
    exact ⟨c1, hc1⟩
  refine W.newcK hexec hb hown hcl hins hini (g := F0 m pc ls []) rfl hd0 hc hs hfX rfl fun H1 kX hkX e1 z1 o1 => ?_
  refine W.eq (g2 := F0 m (pc + 3) ls [.ref H.size]) rfl ?_
  refine lv_dup hexec hb hd3 rfl ?_
  refine va_ldcS hexec hb hown hZ hd4 ?_
  exact th_throw hexec hb hml htr hno hown hcls hnames h hfX hkX e1 hH hsz hd6 hd9 hRf hRl hlocks
end TH
end
section
/-! A CALL OF A METHOD THAT THROWS -/
theorem th_old {T V : State} {k n : Nat} (h : T.sameButNew V [] k n) : T.heap.size ≤ V.heap.size ∧ ∀ q : Nat, q < T.heap.size → V.heap[q]? = T.heap[q]? := by
  obtain ⟨-, h2, -, -, -, h6⟩ := h
  refine ⟨h2, fun q hq => ?_⟩
  have hc : T.heap[q]? = some T.heap[q] := Array.getElem?_eq_getElem hq
  obtain ⟨c', e1, e2, -, e4⟩ := h6 q _ hc
  have hsl : c'.slots = T.heap[q].slots := Array.ext_getElem? fun i => e4 i (by simp)
  rw [e1, hc, e2, hsl]
section THC
variable {p : Program} {l : Launch} {e : Env} {R : Room} {s : State} {m : MethodId} {args : Array Value} {below : List Frame} {meth : Method} {c : Code} {T : State} {H : Heap} {locs : List Loc} {cells slots : Nat} {Q : State → Prop}
  {y : MethodName} {bytes cc : ByteArray} {maxL nL mc ms n index : Nat} {ret : Option FieldType} {ws Ts : List Cond} {rm : Room} {Pc : Array Value → State → Prop} {C own D : String} {b : Addr} {As rest : List Value} {g : JFrame}
theorem th_into (X : Stand p l e R s m args below meth c T locs cells slots) (hM : th_Met l y ws rm Pc D mc ms) (hbl : FrameBlind Pc) (hrc : rm.cells = mc) (hrs : rm.slots = ms)
    (hfr : rm.frames + 1 ≤ R.frames) (hlo : 8 + (maxL + 11) + rm.locals ≤ R.locals) {a : Array Value} (hws : ∀ w ∈ ws, w.before a T = true) (hcode : Cond.code y bytes maxL ret ∈ ws) (hini : (Cond.initialized y.cls).before a T = true)
    (hg : g.method = m) (hsize : g.locals.size = c.maxLocals) {ig : Instr} {len : Nat} (hdg : decode c.code g.pc = .ok (ig, len)) (hW : 2 * g.monitorRoom + (g.stack.map fun v => v.category).sum ≤ 8)
    {mk : MethodId} (hn : T.methodNamed? y = some mk) (hf : cells + mc ≤ R.cells ∧ slots + ms ≤ R.slots) (hPc : Pc a T) :
    ∃ (x : Addr) (T' : State), Stand p l e R s m args below meth c T' locs (cells + mc) (slots + ms) ∧ (T.heap.size ≤ T'.heap.size ∧ ∀ q : Nat, q < T.heap.size → T'.heap[q]? = T.heap[q]?) ∧ th_O D s T' x ∧
      Steps p.tables e below (doInvoke e (T.setTop g) [] mk a).1 ((T'.setTop g).pushFrame (.throwing x)) := by
  subst hrc; subst hrs
  obtain ⟨methY, cY, hmY, hcY, -, hlY, -, -, -, -⟩ := Cond.code_spec hn (hws _ hcode)
  obtain ⟨kY, hkY, -⟩ := className_of_methodNamed hn
  have hinitY : kY.init = .initialized := Cond.initialized_spec (findClass_of_methodNamed hn) hkY hini
  have h : At T g.method c below := by rw [hg]; exact X.here
  have happ : (headSpec ws rm).appliesLoose y e.platform (T.calling g mk a) = true :=
    Spec.appliesLoose_calling (g := g) h hdg hn hkY hinitY (X.room_calling (g := g) (R' := (headSpec ws rm).room) hsize hmY hcY hfr (by rw [hlY]; show _ + (maxL + 11) + rm.locals ≤ _; omega) hf.1 hf.2) (atoms_intro hws)
  obtain ⟨mid, hmid⟩ := h.above
  have hfr2 : (T.setTop g).frames = (.java g :: mid) ++ below := by rw [State.frames_setTop' g h.top, hmid]; rfl
  obtain ⟨o, s₂, hsteps, -, hend, x, rfl, ⟨cell, hO1, hO2, hO3⟩, hW₂, hsame⟩ := Steps.callFree hM p X.admits X.cas X.clock (acts := []) hfr2 happ (hbl _ _ _ _ hPc) trivial
  rw [State.frames_setTop' g h.top, X.tail] at hend
  obtain ⟨T', X', hW', hB, ht⟩ := X.outOfThrown hg hend hW₂ hsame
  rw [List.append_nil] at X'
  have hold := th_old hB
  rw [State.heap_setVm] at hold
  refine ⟨x, T', X', hold, ⟨cell, ?_, hO2, ?_⟩, ?_⟩
  · rw [ht, Stand.throwing_heap] at hO1; exact hO1
  · rw [← X.warmed.alike.findClass]; exact hO3
  · rw [← ht]; exact hsteps
/-- a call comes back thrown -/
def th_Run (p : Program) (l : Launch) (e : Env) (R : Room) (s : State) (m : MethodId) (args : Array Value) (below : List Frame) (meth : Method) (c : Code) (H : Heap) (locs : List Loc) (cells slots mc ms : Nat) (g : JFrame) (rest : List Value) (D : String) : Prop :=
  ∀ T : State, T.heap = H → Stand p l e R s m args below meth c T locs cells slots → ∃ (x : Addr) (T' : State), Stand p l e R s m args below meth c T' locs (cells + mc) (slots + ms) ∧ (H.size ≤ T'.heap.size ∧ ∀ q : Nat, q < H.size → T'.heap[q]? = H[q]?) ∧ th_O D s T' x ∧
    ∀ target, Steps p.tables e below ((T'.setTop { g with stack := rest }).pushFrame (.throwing x)) target → Steps p.tables e below (T.setTop g) target
theorem th_runV (S : CallFix p m c cc nL s args Ts own) (hM : th_Met l y ws rm Pc D mc ms) (cw : CallW R s args own C index y bytes maxL ret ws rm mc ms n) (hp : PreV s H C b Pc As)
    (hg : g.method = m) (hn : As.length = n) (hsize : g.locals.size = nL) (hstack : g.stack = As.reverse ++ .ref b :: rest) (hW : 2 * g.monitorRoom + (rest.map fun v => v.category).sum ≤ 8) (hdg : decode cc g.pc = .ok (.invokevirtual index, 3)) (hf : cells + mc ≤ R.cells ∧ slots + ms ≤ R.slots) :
    th_Run p l e R s m args below meth c H locs cells slots mc ms g rest D := by
  obtain ⟨⟨hrc, hrs, hfr, hlo, hws, hcw, hcode, hini, hy, hlen, hl⟩, hin, hse⟩ := cw
  obtain ⟨hx, hb, hml, ho, -⟩ := S
  obtain ⟨hbl, ⟨cellB, hcB, hoB, hclB⟩, hPc⟩ := hp
  intro T hT X
  obtain ⟨mk, methM, hnamed, hmethM, hstM, habM⟩ := Cond.instanceMethod_spec hin
  obtain ⟨methM', cM, hmethM', -, -, -, -, -, -, hsigM⟩ := Cond.code_spec hnamed hcode
  cases hmethM.symm.trans hmethM'
  obtain ⟨c2, r2, m2, q1, q2, q3, q4, kP, hkP, hkPi⟩ := Cond.selects_spec hse
  cases hclB.symm.trans q1
  cases (State.methodFound?_of_named hnamed hy).symm.trans q2
  cases hnamed.symm.trans q3
  have hselP : selectMethod e.platform s.vm cellB.cls mk = .method mk := by rw [Launch.admits_selectMethod X.admits]; exact q4
  obtain ⟨vm₁, X₁, hstep₁⟩ := X.invokevirtual hx ho hl hnamed hmethM hstM hkP hkPi hy (a := b) (cell := cellB) (by rw [hT]; exact hcB)
    (fun z h => by rw [h] at hoB; cases hoB) hselP hmethM habM hkP hkPi (g := g) hg (argsL := As) (rest := rest) (hn.trans (hlen _ hsigM)) hstack (by rw [hb]; exact hdg)
  obtain ⟨x, T', X', hold, hO, hsteps⟩ := th_into X₁ hM hbl hrc hrs hfr hlo (a := (Value.ref b :: As).toArray) (fun w hw => hws w hw _ _ X₁.warmed) hcw
    (word_at X₁.warmed (Or.inl (by first | rfl | simp [Cond.onTables, Cond.keeps, Cond.steady])) hini) (g := { g with stack := rest }) hg (hsize.trans hml.symm) (ig := .invokevirtual index) (len := 3) (by rw [hb]; exact hdg) hW (X₁.named hnamed) hf (hPc (T.setVm vm₁) hT X₁.warmed)
  refine ⟨x, T', X', by rw [← hT]; exact hold, hO, fun target h => hstep₁ _ fun acts => ?_⟩
  rw [doInvoke_state]; exact hsteps.trans h
/-- nothing catches it here: the caller throws it on -/
theorem th_up (hno : c.exceptionTable.toList = []) (hg : g.method = m) (hlocked : g.locked = none) (hentered : g.entered = []) (hlocks : meth.locks = false)
    (r : th_Run p l e R s m args below meth c H [] cells slots mc ms g rest D) : W p l e R s m args below meth c H [] cells slots (th_Q below D s (cells + mc) (slots + ms)) g := by
  intro T hT X
  obtain ⟨x, T', X', hold, ⟨cell, hO1, hO2, hO3⟩, st⟩ := r T hT X
  obtain ⟨h1, h2, h3, h4, h5⟩ := X'.leaveThrown x (g := { g with stack := rest }) hg hlocked hentered (fun z hz => by rw [hno] at hz; cases hz) hlocks
  exact ⟨_, st _ h1, .threw x, h2, h3, x, rfl, ⟨cell, hO1, hO2, hO3⟩, h4, h5⟩
end THC
end
section
/-! CAUGHT: the first row of the table covers the call and names the class that was thrown, its entry open or resolved -/
def th_Fi (e : Env) (u : State) (f : JFrame) (a : Addr) (h : Handler) (v : Vm) : Prop :=
  ∀ (Q : Handler → Pre) (E : CtlPost) (d : Bool) (acts : List Action), wp (findHandler f a) Q E e d acts u ↔ Q h d acts (u.setVm v)
theorem th_find {e : Env} {u : State} {f : JFrame} {a : Addr} {meth : Method} {cd : Code} (hm : u.vm.method? f.method = some meth) (hc : meth.code = some cd) {x : ExceptionTableEntry} {rest : List ExceptionTableEntry}
    (htab : cd.exceptionTable.toList = x :: rest) (hx : covers x f.pc = true) (h0 : x.catchType ≠ 0) {k : ClassId} {cell : Cell} (hl : u.vm.ClassLinks e.platform f.method.cls x.catchType k) (hcell : u.heap[a]? = some cell) (hobj : cell.vm = .none)
    (hk : ∃ q, u.vm.classes[k]? = some q) (heq : cell.cls = k) : th_Fi e u f a (.found x.handlerPc) (u.vm.noted f.method.cls x.catchType (.cls k)) := by
  intro Q E d acts
  obtain ⟨ha, ht⟩ := (resolveClass_links e.toSetting hl).op (op := VmOp.resolveClass f.method.cls x.catchType) rfl
  have hal : u.vm.Alike (u.vm.noted f.method.cls x.catchType (.cls k)) := (Vm.Alike.refl u.vm).noted _ _ _
  obtain ⟨q1, hq1⟩ := hk
  obtain ⟨q2, hq2, -⟩ := hal.2.2 _ _ hq1
  subst heq
  have hfit : (u.vm.noted f.method.cls x.catchType (.cls cell.cls)).assignable cell.cls cell.cls = true := va_asg _ _
  have hob : ∀ z, cell.vm ≠ .statics z := fun z hz => by rw [hobj] at hz; cases hz
  simp only [covers] at hx
  rw [W.findHandler_eq hm hc, htab]
  simp [findHandler.go, hx, h0, ha, ht, hcell, hob, hq2, hfit, VmOp.dirties, VmOp.acts]
theorem th_step {e : Env} {u : State} {f : JFrame} {a : Addr} {r : List Frame} {pc : Nat} {v : Vm} (h : th_Fi e u f a (.found pc) v) :
    (stepThrowing e u a (.java f :: r)).1 = (u.setVm v).setFrames (.java { f with pc := pc, stack := [.ref a] } :: r) := by
  simp only [stepThrowing, searchFrame, vmDo]
  generalize hr : Sem.go _ e false [] u = res
  obtain ⟨as, rfl, ha⟩ := Sem.eq_ok_of hr (a := Handler.found pc) (s' := u.setVm v) (acts' := []) (by simp [h _ _ _ _])
  rfl
section THK
variable {p : Program} {l : Launch} {e : Env} {R : Room} {s : State} {m : MethodId} {args : Array Value} {below : List Frame} {meth : Method} {c : Code} {H : Heap} {locs : List Loc} {cells slots mc ms : Nat} {Q : State → Prop} {D own : String} {rest : List Value} {g : JFrame}
theorem th_catch {x : ExceptionTableEntry} {xs : List ExceptionTableEntry} (htab : c.exceptionTable.toList = x :: xs) (hx : covers x g.pc = true) (h0 : x.catchType ≠ 0) (hg : g.method = m) (hown : s.vm.findClass own = some m.cls)
    (hlink : (Cond.classLink own x.catchType D).before args s = true) (r : th_Run p l e R s m args below meth c H locs cells slots mc ms g rest D)
    (kk : ∀ (a : Addr) (H1 : Heap), H.size ≤ H1.size → (∀ q : Nat, q < H.size → H1[q]? = H[q]?) → W p l e R s m args below meth c H1 locs (cells + mc) (slots + ms) Q { g with pc := x.handlerPc, stack := [.ref a] }) :
    W p l e R s m args below meth c H locs cells slots Q g := by
  intro T hT X
  obtain ⟨a, T', X', hold, ⟨cell, hO1, hO2, hO3⟩, st⟩ := r T hT X
  have hpl : e.platform.magicAccessors = ({} : Platform).magicAccessors := by rw [X.admits.platform]
  obtain ⟨k, hk, hcl⟩ := Cond.classLink_spec hown hlink e.platform hpl
  have hkc : cell.cls = k := Option.some.inj (hO3.symm.trans hk)
  obtain ⟨dk, _, _, kt, hd, _, _, _, _, hkt, _, hopen⟩ := hcl.here
  have hcl₀ := X'.warmed.classLinks hcl
  have hW2 : s.WarmedH (T'.vm.noted m.cls x.catchType (.cls k)) := X'.warmed.noted hd hopen (State.rightAt_cls hcl)
  obtain ⟨kt', hkt', -⟩ := X'.warmed.alike.2.2 _ _ hkt
  have X2 := X'.noted hW2
  obtain ⟨t, a1, b1⟩ := kk a T'.heap hold.1 hold.2 (T'.setVm (T'.vm.noted m.cls x.catchType (.cls k))) rfl X2
  refine ⟨t, st t ?_, b1⟩
  subst hg
  have h : At T' g.method c below := X'.here
  obtain ⟨hgo, hw⟩ := At.throwing (g := { g with stack := rest }) h a
  refine Steps.head hgo hw ?_
  rw [stepThread_throwing (frames_entered h.top _), th_step (th_find (u := (T'.setTop { g with stack := rest }).pushFrame (.throwing a)) (meth := meth) (cd := c) (f := { g with stack := rest }) X'.method' X'.code htab hx h0 hcl₀ hO1 hO2 ⟨kt', hkt'⟩ hkc)]
  obtain ⟨g₀, hg₀⟩ := Option.isSome_iff_exists.mp h.top
  obtain ⟨rr, hr⟩ := State.topJava?_eq_some.mp hg₀
  have hr2 : (T'.setVm (T'.vm.noted g.method.cls x.catchType (.cls k))).frames = .java g₀ :: rr := hr
  rw [State.setTop_of_frames _ hr2] at a1
  have hfin : ∀ (u : State) (v : Vm) (F G : List Frame), ((u.setFrames F).setVm v).setFrames G = (u.setVm v).setFrames G := fun u v F G => by
    rw [show (u.setFrames F).setVm v = (u.setVm v).setFrames F from rfl, State.setFrames_setFrames]
  rw [hr, List.tail_cons, State.pushFrame, State.setTop_of_frames _ hr, State.setFrames_setFrames, hfin]
  exact a1
end THK
/-- the table of a method whose word is 'codeWith' -/
theorem th_table {p : Program} {l : Launch} {e : Env} {s : State} {m : MethodId} {args : Array Value} {below : List Frame} {meth : Method} {c : Code} {s₁ : State} {y : MethodName} {ws ws' : List Cond} {rm : Room} {cc : ByteArray} {maxL : Nat} {ret : Option FieldType} {hh : List (Nat × Nat × Nat × Nat)}
    (B : BodyLoose p l y (headSpec ws rm) cc maxL ret e s m args below meth c s₁) (hw : ws = Cond.codeWith y cc maxL ret hh :: ws') : c.exceptionTable.toList = tableOf hh := by
  obtain ⟨m9, meth9, c9, hn9, h1, h2, h3, h4, h5, -⟩ := Cond.codeWith_spec (atoms_spec (ws := ws) B.pre _ (by rw [hw]; exact List.mem_cons_self))
  cases B.named.symm.trans hn9
  cases B.method.symm.trans h1
  cases (Stand.of_body B).code.symm.trans h2
  rw [← h5, table_eq]
section THS
variable {p : Program} {l : Launch} {e : Env} {R : Room} {s : State} {m : MethodId} {args : Array Value} {below : List Frame} {meth : Method} {c : Code} {H : Heap} {locs : List Loc} {cells slots : Nat} {Q : State → Prop}
/-- what a call of a static method with a table asks -/
def th_CS (R : Room) (s : State) (args : Array Value) (own : String) (index : Nat) (y : MethodName) (bytes : ByteArray) (maxL : Nat) (ret : Option FieldType) (hh : List (Nat × Nat × Nat × Nat)) (ws : List Cond) (rm : Room) (mc ms n : Nat) : Prop :=
  (rm.cells = mc ∧ rm.slots = ms ∧ rm.frames + 1 ≤ R.frames ∧ 8 + (maxL + 11) + rm.locals ≤ R.locals ∧ (∀ w ∈ ws, ∀ (a' : Array Value) (U : State), s.WarmedH U.vm → w.before a' U = true) ∧ Cond.codeWith y bytes maxL ret hh ∈ ws) ∧
  (Cond.codeWith y bytes maxL ret hh).before args s = true ∧ (Cond.initialized y.cls).before args s = true ∧ (y.cls ≠ "java/lang/invoke/MethodHandle" ∧ y.cls ≠ "java/lang/invoke/VarHandle") ∧ (∀ sig, parseMethodDescriptor y.desc = some sig → n = sig.parameters.length) ∧ (Cond.methodLink own index y).before args s = true ∧ (Cond.static y).before args s = true
theorem th_cs {own : String} {index maxL mc ms : Nat} {y : MethodName} {bytes : ByteArray} {ret : Option FieldType} {hh : List (Nat × Nat × Nat × Nat)} {Ts ws ws' : List Cond} {rm : Room} (n : Nat) (ht : ∀ w ∈ Ts, w.before args s = true) (hT : GoodIn Ts (va_wsS own index y ws)) (hw : ws = Cond.codeWith y bytes maxL ret hh :: ws') (hrc : rm.cells = mc) (hrs : rm.slots = ms)
    (hd : y.cls ≠ "java/lang/invoke/MethodHandle" ∧ y.cls ≠ "java/lang/invoke/VarHandle" ∧ (parseMethodDescriptor y.desc).map (fun d => d.parameters.length) = some n) (hR : rm.frames + 1 ≤ R.frames ∧ 8 + (maxL + 11) + rm.locals ≤ R.locals) : th_CS R s args own index y bytes maxL ret hh ws rm mc ms n := by
  have ok : ∀ w ∈ va_wsS own index y ws, w.before args s = true := fun w h => ht w (hT w h).1
  have hG : GoodIn Ts ws := fun w h => hT w (by unfold va_wsS; exact List.mem_append_right _ h)
  have hc : Cond.codeWith y bytes maxL ret hh ∈ ws := by rw [hw]; exact List.mem_cons_self
  refine ⟨⟨hrc, hrs, hR.1, hR.2, pay_in ht hG, hc⟩, ht _ (hG _ hc).1, ok _ (by simp [va_wsS]), ⟨hd.1, hd.2.1⟩, fun sig h => ?_, ok _ (by simp [va_wsS]), ok _ (by simp [va_wsS])⟩
  have h2 := hd.2.2
  rw [h] at h2
  exact (Option.some.inj h2).symm
theorem th_runS {y : MethodName} {bytes cc : ByteArray} {maxL nL mc ms n index : Nat} {ret : Option FieldType} {hh : List (Nat × Nat × Nat × Nat)} {ws : List Cond} {rm : Room} {Pc : Array Value → State → Prop} {Qc : Array Value → State → Outcome → State → Prop} {free : Addr → Prop} {Ts : List Cond} {own : String} {As rest : List Value} {g : JFrame}
    (S : CallFix p m c cc nL s args Ts own) (hM : Met l y ws rm Pc Qc mc ms free) (cw : th_CS R s args own index y bytes maxL ret hh ws rm mc ms n) (hp : PreS s H Pc As)
    (hg : g.method = m) (hn : As.length = n) (hsize : g.locals.size = nL) (hstack : g.stack = As.reverse ++ rest) (hW : 2 * g.monitorRoom + (rest.map fun v => v.category).sum ≤ 8) (hdg : decode cc g.pc = .ok (.invokestatic index, 3)) (hf : cells + mc ≤ R.cells ∧ slots + ms ≤ R.slots) :
    va_Run p l e R s m args below meth c H locs cells slots mc ms g rest (Qc As.toArray) free := by
  obtain ⟨⟨hrc, hrs, hfr, hlo, hws, hcw⟩, hcode, hini, hy, hlen, hl, hst⟩ := cw
  have hK : Back l R p e below s args y 3 8 (PreOf R mc ms Pc) (PostOf Qc mc ms free) := va_backW (hh := hh) (bytes := bytes) (maxL := maxL) (ret := ret) hM hp.1 hrc hrs hfr hlo hws hcw (fun a' U hW => word_at hW (Or.inl (by first | rfl | simp [Cond.onTables, Cond.keeps, Cond.steady])) hini)
  obtain ⟨hx, hb, hml, ho, -⟩ := S
  intro T hT X
  obtain ⟨mk, methM, cM, hnamed, hmethM, -, -, -, -, -, -, hsigM⟩ := Cond.codeWith_spec hcode
  have hstatic : methM.isStatic = true := Cond.static_spec hnamed hmethM hst
  obtain ⟨kP, hkP, -⟩ := className_of_methodNamed hnamed
  have hinitP : kP.init = .initialized := Cond.initialized_spec (findClass_of_methodNamed hnamed) hkP hini
  obtain ⟨vm₁, X₁, hstep₁⟩ := X.invokestatic hx ho hl hnamed hmethM hstatic hkP hinitP hy (g := g) hg (argsL := As) (rest := rest) (hn.trans (hlen _ hsigM)) hstack (by rw [hb]; exact hdg)
  obtain ⟨v, ⟨U', l2, c2, s2⟩, X', ⟨g', mk', t, L, e1, e2, hq, h1, hL, h2, h3⟩, hsteps⟩ := hK m meth c ⟨T.setVm vm₁, locs, cells, slots⟩ { g with stack := rest } (.invokestatic index) mk As.toArray X₁ hg (hsize.trans hml.symm) (by rw [hb]; exact hdg) hW (X₁.named hnamed) ⟨hf.1, hf.2, hp.2 (T.setVm vm₁) hT X₁.warmed⟩
  dsimp only [Pt.U, Pt.locs, Pt.cells, Pt.slots] at X' e1 e2 h1 h2 h3 hsteps
  subst h1; subst h2; subst h3
  exact ⟨v, (T.setVm vm₁).calling g' mk' As.toArray, t, U', L, hT, X', hL, e1, e2, hq, fun target h => hstep₁ _ fun acts => by rw [doInvoke_state]; exact hsteps.trans h⟩
end THS
end
section
/-! WHAT A THROW ASKS OF THE HEAP: Throwable's two statics, each null or a reference
-/
def th_L (C n d : String) (U : State) : Prop := ∃ (c : ClassId) (k : Class) (i : Nat) (f : Field) (a : Nat) (cell : Cell) (v : Value), U.vm.findClass C = some c ∧ U.fieldFound? C n d = some (c, k, i, f) ∧ f.isStatic = true ∧ k.statics = some a ∧ U.heap[a]? = some cell ∧ cell.vm.isStatics = true ∧ cell.cls = c ∧ f.slot < cell.slots.size ∧ k.staticTypes[f.slot]? = some f.type ∧ cell.slots[f.slot]? = some v ∧ v.isRef = true
theorem th_L.of {args : Array Value} {s : State} {C n d : String} (hl : (Cond.laysStatic C n d).before args s = true) (h : (Cond.isRef (.static C n d)).before args s = true) : th_L C n d s := by
  obtain ⟨c, k, i, f, a, cell, h1, h2, h3, h4, h5, h6, h7, h8, h9⟩ := Cond.laysStatic_spec hl
  have he : (Term.static C n d).eval args s none [] s = cell.slots[f.slot]? := by
    simp [Term.eval, State.fieldNamed?, h2, h3, h4, h5, h6]
  have hs : cell.slots[f.slot]? = some cell.slots[f.slot] := Array.getElem?_eq_getElem h8
  rw [hs] at he
  simp only [Cond.before, Cond.holds, Cond.value, he] at h
  refine ⟨c, k, i, f, a, cell, cell.slots[f.slot], h1, h2, h3, h4, h5, h6, h7, h8, h9, hs, ?_⟩
  revert h
  generalize cell.slots[f.slot] = v
  intro h
  cases v <;> simp_all [Value.isRef]
theorem th_L.go {C n d : String} {s U : State} (hvm : s.vm.Alike U.vm) (hH : ∀ q : Nat, q < s.heap.size → U.heap[q]? = s.heap[q]?) (h : th_L C n d s) : th_L C n d U := by
  obtain ⟨c, k, i, f, a, cell, v, h1, h2, h3, h4, h5, h6, h7, h8, h9, h10, h11⟩ := h
  obtain ⟨k', hi', he⟩ := State.fieldFound?_setVm hvm h2
  exact ⟨c, k', i, f, a, cell, v, by rw [hvm.findClass]; exact h1, hi', h3, by rw [he]; exact h4, by rw [hH a (Array.getElem?_eq_some_iff.mp h5).1]; exact h5, h6, h7, h8, by rw [he]; exact h9, h10, h11⟩
theorem th_L.lays {C n d : String} {s : State} {args : Array Value} (h : th_L C n d s) : (Cond.laysStatic C n d).before args s = true := by
  obtain ⟨c, k, i, f, a, cell, v, h1, h2, h3, h4, h5, h6, h7, h8, h9, -⟩ := h
  show (Cond.laysStatic C n d).holds args s none s [] = true
  exact Cond.laysStatic_of h1 h2 h3 h4 h5 h6 h7 h8 h9
theorem th_L.isRef {C n d : String} {s : State} {args : Array Value} (h : th_L C n d s) : (Cond.isRef (.static C n d)).before args s = true := by
  obtain ⟨c, k, i, f, a, cell, v, h1, h2, h3, h4, h5, h6, h7, h8, h9, h10, h11⟩ := h
  have he : (Term.static C n d).eval args s none [] s = some v := by
    simp [Term.eval, State.fieldNamed?, h2, h3, h4, h5, h6, h10]
  simp only [Cond.before, Cond.holds, Cond.value, he]
  cases v <;> simp_all [Value.isRef]
def th_S (U : State) : Prop := th_L Bundle.tN "UNASSIGNED_STACK" Bundle.steD U ∧ th_L Bundle.tN "SUPPRESSED_SENTINEL" Bundle.listD U
theorem th_S.go {s U : State} (hvm : s.vm.Alike U.vm) (hH : ∀ q : Nat, q < s.heap.size → U.heap[q]? = s.heap[q]?) (h : th_S s) : th_S U := ⟨h.1.go hvm hH, h.2.go hvm hH⟩
theorem th_decl {args : Array Value} {s : State} {x : MethodName} {bytes : ByteArray} {n : Nat} {ret : Option FieldType} (hi : (Cond.instanceMethod x).before args s = true) (hc : (Cond.code x bytes n ret).before args s = true) : (Cond.declares x).before args s = true := by
  obtain ⟨m, meth, h1, h2, h3, -⟩ := Cond.instanceMethod_spec hi
  obtain ⟨meth', c, h2', -, -, -, -, -, -, h4⟩ := Cond.code_spec h1 hc
  cases h2.symm.trans h2'
  simp [Cond.before, Cond.holds, Cond.value, h1, h2, h3, h4]
theorem th_cast {args : Array Value} {s : State} {X : String} {n : Nat} (hi : (Cond.instantiable X n).before args s = true) : (Cond.castable X X).before args s = true := by
  obtain ⟨c1, k1, hc1, -⟩ := Cond.instantiable_spec hi
  simp [Cond.before, Cond.holds, Cond.value, hc1, va_asg]
abbrev th_X : String := "java/lang/IndexOutOfBoundsException"
abbrev th_N : List String := ["java/lang/RuntimeException", "java/lang/Exception"]
theorem th_bad (own : String) (ic : Nat) : (Bundle.ownAtoms own ic th_X th_N).filter (fun w => !goodWord w) = [Cond.laysStatic Bundle.tN "UNASSIGNED_STACK" Bundle.steD, Cond.laysStatic Bundle.tN "SUPPRESSED_SENTINEL" Bundle.listD, Cond.declares (Bundle.initS "java/lang/RuntimeException"), Cond.declares (Bundle.initS "java/lang/Exception"), Cond.declares (Bundle.initS Bundle.tN), Cond.castable th_X th_X, Cond.isRef (.static Bundle.tN "UNASSIGNED_STACK" Bundle.steD), Cond.isRef (.static Bundle.tN "SUPPRESSED_SENTINEL" Bundle.listD)] := rfl
theorem th_good {args : Array Value} {s : State} {own : String} {ic : Nat} (h : ∀ w ∈ (Bundle.ownAtoms own ic th_X th_N).filter goodWord, w.before args s = true) (hS : th_S s) : ∀ a ∈ Bundle.ownAtoms own ic th_X th_N, a.before args s = true := by
  have hd : ∀ (X : String), Cond.instanceMethod (Bundle.initS X) ∈ (Bundle.ownAtoms own ic th_X th_N).filter goodWord → ∀ (bs : ByteArray), Cond.code (Bundle.initS X) bs 2 none ∈ (Bundle.ownAtoms own ic th_X th_N).filter goodWord → (Cond.declares (Bundle.initS X)).before args s = true :=
    fun X h1 bs h2 => th_decl (h _ h1) (h _ h2)
  intro a ha
  cases hg : goodWord a with
  | true => exact h a (List.mem_filter.mpr ⟨ha, hg⟩)
  | false =>
    have hm : a ∈ (Bundle.ownAtoms own ic th_X th_N).filter (fun w => !goodWord w) := List.mem_filter.mpr ⟨ha, by simp [hg]⟩
    rw [th_bad] at hm
    simp only [List.mem_cons, List.not_mem_nil, or_false] at hm
    rcases hm with rfl | rfl | rfl | rfl | rfl | rfl | rfl | rfl
    · exact hS.1.lays
    · exact hS.2.lays
    · exact hd _ (List.mem_filter.mpr ⟨by simp [Bundle.ownAtoms, Bundle.chainSAtoms, Bundle.passSAtoms], rfl⟩) Bundle.six (List.mem_filter.mpr ⟨by simp [Bundle.ownAtoms, Bundle.chainSAtoms, Bundle.passSAtoms], rfl⟩)
    · exact hd _ (List.mem_filter.mpr ⟨by simp [Bundle.ownAtoms, Bundle.chainSAtoms, Bundle.passSAtoms], rfl⟩) Bundle.six (List.mem_filter.mpr ⟨by simp [Bundle.ownAtoms, Bundle.chainSAtoms, Bundle.passSAtoms], rfl⟩)
    · exact th_decl (h _ (List.mem_filter.mpr ⟨by simp [Bundle.ownAtoms, Bundle.throwableSAtoms], rfl⟩)) (h (Cond.code (Bundle.initS Bundle.tN) _ 2 none) (List.mem_filter.mpr ⟨by simp only [Bundle.ownAtoms, Bundle.throwableSAtoms]; simp; exact Or.inr (Or.inl rfl), rfl⟩))
    · exact th_cast (h (Cond.instantiable th_X 6) (List.mem_filter.mpr ⟨by simp [Bundle.ownAtoms], rfl⟩))
    · exact hS.1.isRef
    · exact hS.2.isRef
end
section
def TG : u_T := fun k => match k with
  | 0 => ("ImageGcds", "letters", "I", true)
  | 1 => ("ImageGcds", "polys", "[LImageGcds$Poly;", true)
  | 2 => ("ImageGcds", "made", "I", false)
  | _ => ("ImageGcds", "bench", "LImageGcds$Bench;", false)
def tG : Nat → FieldType := fun k => match k with
  | 0 => .int
  | 1 => .array (.object "ImageGcds$Poly")
  | 2 => .int
  | _ => .object "ImageGcds$Bench"
abbrev wUG : List Cond := u_ws "ImageGcds" TG 4
theorem nG : ∀ a, a < 4 → ∀ b, b < 4 → a ≠ b → (TG a).2.1 ≠ (TG b).2.1 := by decide +kernel
theorem tG_ok : ∀ k, k < 4 → parseFieldDescriptor (TG k).2.2.1 = some (tG k) := by decide +kernel
def TP : u_T := fun k => match k with
  | 0 => ("ImageGcds$Poly", "size", "I", false)
  | 1 => ("ImageGcds$Poly", "keys", "[I", false)
  | _ => ("ImageGcds$Poly", "numbers", "[I", false)
def tP : Nat → FieldType := fun k => match k with
  | 0 => .int
  | 1 => .array .int
  | _ => .array .int
abbrev wUP : List Cond := u_ws "ImageGcds$Poly" TP 3
theorem nP : ∀ a, a < 3 → ∀ b, b < 3 → a ≠ b → (TP a).2.1 ≠ (TP b).2.1 := by decide +kernel
theorem tP_ok : ∀ k, k < 3 → parseFieldDescriptor (TP k).2.2.1 = some (tP k) := by decide +kernel
def TM : u_T := fun k => match k with
  | 0 => ("ImageGcdsModel", "thrown", "I", false)
  | 1 => ("ImageGcdsModel", "letters", "I", true)
  | 2 => ("ImageGcdsModel", "count", "I", false)
  | 3 => ("ImageGcdsModel", "n", "[I", true)
  | 4 => ("ImageGcdsModel", "two", "[I", true)
  | 5 => ("ImageGcdsModel", "a", "[I", true)
  | 6 => ("ImageGcdsModel", "b", "[I", true)
  | 7 => ("ImageGcdsModel", "c", "[I", true)
  | 8 => ("ImageGcdsModel", "degreeA", "I", false)
  | 9 => ("ImageGcdsModel", "degreeB", "I", false)
  | 10 => ("ImageGcdsModel", "degreeC", "I", false)
  | 11 => ("ImageGcdsModel", "point", "[I", true)
  | 12 => ("ImageGcdsModel", "given", "[I", true)
  | 13 => ("ImageGcdsModel", "whole", "[I", true)
  | 14 => ("ImageGcdsModel", "pointsTwo", "[I", true)
  | 15 => ("ImageGcdsModel", "valuesTwo", "[I", true)
  | 16 => ("ImageGcdsModel", "pointsY", "[I", true)
  | 17 => ("ImageGcdsModel", "valuesY", "[I", true)
  | 18 => ("ImageGcdsModel", "pointsZ", "[I", true)
  | 19 => ("ImageGcdsModel", "valuesZ", "[I", true)
  | 20 => ("ImageGcdsModel", "grid", "[I", true)
  | 21 => ("ImageGcdsModel", "planeA", "[I", true)
  | 22 => ("ImageGcdsModel", "planeB", "[I", true)
  | 23 => ("ImageGcdsModel", "matrix", "[I", true)
  | _ => ("ImageGcdsModel", "found", "I", false)
def tM : Nat → FieldType := fun k => match k with
  | 0 => .int
  | 1 => .int
  | 2 => .int
  | 3 => .array .int
  | 4 => .array .int
  | 5 => .array .int
  | 6 => .array .int
  | 7 => .array .int
  | 8 => .int
  | 9 => .int
  | 10 => .int
  | 11 => .array .int
  | 12 => .array .int
  | 13 => .array .int
  | 14 => .array .int
  | 15 => .array .int
  | 16 => .array .int
  | 17 => .array .int
  | 18 => .array .int
  | 19 => .array .int
  | 20 => .array .int
  | 21 => .array .int
  | 22 => .array .int
  | 23 => .array .int
  | _ => .int
abbrev wUM : List Cond := u_ws "ImageGcdsModel" TM 25
theorem nM : ∀ a, a < 25 → ∀ b, b < 25 → a ≠ b → (TM a).2.1 ≠ (TM b).2.1 := by decide +kernel
theorem tM_ok : ∀ k, k < 25 → parseFieldDescriptor (TM k).2.2.1 = some (tM k) := by decide +kernel
abbrev cls9 : List vw_C := [("ImageGcds", TG, 4), ("ImageGcds$Poly", TP, 3), ("ImageGcdsModel", TM, 25)]
abbrev bG_held : ByteArray := prog_1_method_18_code
abbrev yG_held : MethodName := ⟨"ImageGcds", "held", "(I)LImageGcds$Poly;"⟩
abbrev bG_term : ByteArray := prog_1_method_3_code
abbrev yG_term : MethodName := ⟨"ImageGcds", "term", "(IJJI)Z"⟩
abbrev bG_add : ByteArray := prog_1_method_4_code
abbrev yG_add : MethodName := ⟨"ImageGcds", "add", "(II)I"⟩
abbrev bG_times : ByteArray := prog_1_method_5_code
abbrev yG_times : MethodName := ⟨"ImageGcds", "times", "(II)I"⟩
abbrev bG_over : ByteArray := prog_1_method_6_code
abbrev yG_over : MethodName := ⟨"ImageGcds", "over", "(II)I"⟩
abbrev bG_gcd : ByteArray := prog_1_method_7_code
abbrev yG_gcd : MethodName := ⟨"ImageGcds", "gcd", "(II)I"⟩
abbrev bG_resultant : ByteArray := prog_1_method_8_code
abbrev yG_resultant : MethodName := ⟨"ImageGcds", "resultant", "(III)I"⟩
abbrev bG_slope : ByteArray := prog_1_method_9_code
abbrev yG_slope : MethodName := ⟨"ImageGcds", "slope", "(II)I"⟩
abbrev bG_content : ByteArray := prog_1_method_10_code
abbrev yG_content : MethodName := ⟨"ImageGcds", "content", "(II)I"⟩
abbrev bG_part : ByteArray := prog_1_method_11_code
abbrev yG_part : MethodName := ⟨"ImageGcds", "part", "(II)I"⟩
abbrev bG_image : ByteArray := prog_1_method_12_code
abbrev yG_image : MethodName := ⟨"ImageGcds", "image", "(III)I"⟩
abbrev bG_equal : ByteArray := prog_1_method_13_code
abbrev yG_equal : MethodName := ⟨"ImageGcds", "equal", "(II)Z"⟩
abbrev bG_terms : ByteArray := prog_1_method_14_code
abbrev yG_terms : MethodName := ⟨"ImageGcds", "terms", "(I)I"⟩
abbrev bG_at : ByteArray := prog_1_method_15_code
abbrev yG_at : MethodName := ⟨"ImageGcds", "at", "(III)I"⟩
abbrev bG_degree : ByteArray := prog_1_method_16_code
abbrev yG_degree : MethodName := ⟨"ImageGcds", "degree", "(II)I"⟩
abbrev bL_term : ByteArray := method_4_code
abbrev yL_term : MethodName := ⟨"ImageGcdsLaw", "term", "(LImageGcds;IJJI[J)I"⟩
abbrev bL_add : ByteArray := method_5_code
abbrev yL_add : MethodName := ⟨"ImageGcdsLaw", "add", "(LImageGcds;II[J)I"⟩
abbrev bL_times : ByteArray := method_6_code
abbrev yL_times : MethodName := ⟨"ImageGcdsLaw", "times", "(LImageGcds;II[J)I"⟩
abbrev bL_over : ByteArray := method_7_code
abbrev yL_over : MethodName := ⟨"ImageGcdsLaw", "over", "(LImageGcds;II[J)I"⟩
abbrev bL_gcd : ByteArray := method_8_code
abbrev yL_gcd : MethodName := ⟨"ImageGcdsLaw", "gcd", "(LImageGcds;II[J)I"⟩
abbrev bL_resultant : ByteArray := method_9_code
abbrev yL_resultant : MethodName := ⟨"ImageGcdsLaw", "resultant", "(LImageGcds;III[J)I"⟩
abbrev bL_slope : ByteArray := method_10_code
abbrev yL_slope : MethodName := ⟨"ImageGcdsLaw", "slope", "(LImageGcds;II[J)I"⟩
abbrev bL_content : ByteArray := method_11_code
abbrev yL_content : MethodName := ⟨"ImageGcdsLaw", "content", "(LImageGcds;II[J)I"⟩
abbrev bL_part : ByteArray := method_12_code
abbrev yL_part : MethodName := ⟨"ImageGcdsLaw", "part", "(LImageGcds;II[J)I"⟩
abbrev bL_image : ByteArray := method_13_code
abbrev yL_image : MethodName := ⟨"ImageGcdsLaw", "image", "(LImageGcds;III[J)I"⟩
abbrev bL_equal : ByteArray := method_14_code
abbrev yL_equal : MethodName := ⟨"ImageGcdsLaw", "equal", "(LImageGcds;II[J)I"⟩
abbrev bL_terms : ByteArray := method_15_code
abbrev yL_terms : MethodName := ⟨"ImageGcdsLaw", "terms", "(LImageGcds;I[J)I"⟩
abbrev bL_at : ByteArray := method_16_code
abbrev yL_at : MethodName := ⟨"ImageGcdsLaw", "at", "(LImageGcds;III[J)I"⟩
abbrev bL_degree : ByteArray := method_17_code
abbrev yL_degree : MethodName := ⟨"ImageGcdsLaw", "degree", "(LImageGcds;II[J)I"⟩
abbrev bM_number : ByteArray := prog_12_method_4_code
abbrev yM_number : MethodName := ⟨"ImageGcdsModel", "number", "(J)I"⟩
abbrev bM_isPoly : ByteArray := prog_12_method_48_code
abbrev yM_isPoly : MethodName := ⟨"ImageGcdsModel", "isPoly", "(I)Z"⟩
abbrev bM_isFull : ByteArray := prog_12_method_50_code
abbrev yM_isFull : MethodName := ⟨"ImageGcdsModel", "isFull", "()Z"⟩
abbrev bM_isLetter : ByteArray := prog_12_method_51_code
abbrev yM_isLetter : MethodName := ⟨"ImageGcdsModel", "isLetter", "(I)Z"⟩
abbrev bM_areNot : ByteArray := prog_12_method_49_code
abbrev yM_areNot : MethodName := ⟨"ImageGcdsModel", "areNot", "(II)Z"⟩
abbrev bM_thrown : ByteArray := prog_12_method_2_code
abbrev yM_thrown : MethodName := ⟨"ImageGcdsModel", "thrown", "()I"⟩
abbrev bM_fails : ByteArray := prog_12_method_3_code
abbrev yM_fails : MethodName := ⟨"ImageGcdsModel", "fails", "(ZZZ)Z"⟩
abbrev bM_count : ByteArray := prog_12_method_77_code
abbrev yM_count : MethodName := ⟨"ImageGcdsModel", "count", "()I"⟩
abbrev bM_term : ByteArray := prog_12_method_54_code
abbrev yM_term : MethodName := ⟨"ImageGcdsModel", "term", "(IJJI)Z"⟩
abbrev bM_add : ByteArray := prog_12_method_55_code
abbrev yM_add : MethodName := ⟨"ImageGcdsModel", "add", "(II)I"⟩
abbrev bM_times : ByteArray := prog_12_method_56_code
abbrev yM_times : MethodName := ⟨"ImageGcdsModel", "times", "(II)I"⟩
abbrev bM_over : ByteArray := prog_12_method_57_code
abbrev yM_over : MethodName := ⟨"ImageGcdsModel", "over", "(II)I"⟩
abbrev bM_gcd : ByteArray := prog_12_method_58_code
abbrev yM_gcd : MethodName := ⟨"ImageGcdsModel", "gcd", "(II)I"⟩
abbrev bM_resultant : ByteArray := prog_12_method_65_code
abbrev yM_resultant : MethodName := ⟨"ImageGcdsModel", "resultant", "(III)I"⟩
abbrev bM_slope : ByteArray := prog_12_method_67_code
abbrev yM_slope : MethodName := ⟨"ImageGcdsModel", "slope", "(II)I"⟩
abbrev bM_content : ByteArray := prog_12_method_68_code
abbrev yM_content : MethodName := ⟨"ImageGcdsModel", "content", "(II)I"⟩
abbrev bM_part : ByteArray := prog_12_method_70_code
abbrev yM_part : MethodName := ⟨"ImageGcdsModel", "part", "(II)I"⟩
abbrev bM_image : ByteArray := prog_12_method_71_code
abbrev yM_image : MethodName := ⟨"ImageGcdsModel", "image", "(III)I"⟩
abbrev bM_equal : ByteArray := prog_12_method_72_code
abbrev yM_equal : MethodName := ⟨"ImageGcdsModel", "equal", "(II)Z"⟩
abbrev bM_terms : ByteArray := prog_12_method_74_code
abbrev yM_terms : MethodName := ⟨"ImageGcdsModel", "terms", "(I)I"⟩
abbrev bM_at : ByteArray := prog_12_method_75_code
abbrev yM_at : MethodName := ⟨"ImageGcdsModel", "at", "(III)I"⟩
abbrev bM_degree : ByteArray := prog_12_method_76_code
abbrev yM_degree : MethodName := ⟨"ImageGcdsModel", "degree", "(II)I"⟩
abbrev bG_init : ByteArray := prog_1_method_1_code
abbrev yG_init : MethodName := ⟨"ImageGcds", "<init>", "(I)V"⟩
abbrev bM_init : ByteArray := prog_12_method_1_code
abbrev yM_init : MethodName := ⟨"ImageGcdsModel", "<init>", "(I)V"⟩
abbrev bP_init : ByteArray := prog_8_method_1_code
abbrev yP_init : MethodName := ⟨"ImageGcds$Poly", "<init>", "(I)V"⟩
abbrev bG_count : ByteArray := prog_1_method_17_code
abbrev yG_count : MethodName := ⟨"ImageGcds", "count", "()I"⟩
abbrev bL_cell : ByteArray := method_2_code
abbrev yL_cell : MethodName := ⟨"ImageGcdsLaw", "cell", "([II)I"⟩
abbrev bM_clear : ByteArray := prog_12_method_7_code
abbrev yM_clear : MethodName := ⟨"ImageGcdsModel", "clear", "(I)V"⟩
abbrev bM_copy : ByteArray := prog_12_method_8_code
abbrev yM_copy : MethodName := ⟨"ImageGcdsModel", "copy", "(II)V"⟩
abbrev bM_made : ByteArray := prog_12_method_52_code
abbrev yM_made : MethodName := ⟨"ImageGcdsModel", "made", "(I)I"⟩
abbrev bM_poly : ByteArray := prog_12_method_53_code
abbrev yM_poly : MethodName := ⟨"ImageGcdsModel", "poly", "()I"⟩
abbrev bG_requireRoom : ByteArray := prog_1_method_19_code
abbrev yG_requireRoom : MethodName := ⟨"ImageGcds", "requireRoom", "()V"⟩
abbrev bG_keep : ByteArray := prog_1_method_23_code
abbrev yG_keep : MethodName := ⟨"ImageGcds", "keep", "(LImageGcds$Poly;)I"⟩
abbrev bG_poly : ByteArray := prog_1_method_2_code
abbrev yG_poly : MethodName := ⟨"ImageGcds", "poly", "()I"⟩
abbrev bL_poly : ByteArray := method_3_code
abbrev yL_poly : MethodName := ⟨"ImageGcdsLaw", "poly", "(LImageGcds;[J)I"⟩
abbrev bL_law : ByteArray := code
abbrev yL_law : MethodName := ⟨"ImageGcdsLaw", "law", "([I)Z"⟩
end
section
theorem dG_add_0 : decode bG_add 0 = .ok (.aload_n 0, 1) := by decide +kernel
theorem dG_add_1 : decode bG_add 1 = .ok (.iload_n 1, 1) := by decide +kernel
theorem dG_add_2 : decode bG_add 2 = .ok (.invokevirtual 32, 3) := by decide +kernel
theorem dG_at_0 : decode bG_at 0 = .ok (.aload_n 0, 1) := by decide +kernel
theorem dG_at_1 : decode bG_at 1 = .ok (.iload_n 1, 1) := by decide +kernel
theorem dG_at_2 : decode bG_at 2 = .ok (.invokevirtual 32, 3) := by decide +kernel
theorem dG_content_0 : decode bG_content 0 = .ok (.aload_n 0, 1) := by decide +kernel
theorem dG_content_1 : decode bG_content 1 = .ok (.iload_n 1, 1) := by decide +kernel
theorem dG_content_2 : decode bG_content 2 = .ok (.invokevirtual 32, 3) := by decide +kernel
theorem dG_count_0 : decode bG_count 0 = .ok (.aload_n 0, 1) := by decide +kernel
theorem dG_count_1 : decode bG_count 1 = .ok (.getfield 19, 3) := by decide +kernel
theorem dG_count_4 : decode bG_count 4 = .ok (.ireturn, 1) := by decide +kernel
theorem dG_degree_0 : decode bG_degree 0 = .ok (.aload_n 0, 1) := by decide +kernel
theorem dG_degree_1 : decode bG_degree 1 = .ok (.iload_n 1, 1) := by decide +kernel
theorem dG_degree_2 : decode bG_degree 2 = .ok (.invokevirtual 32, 3) := by decide +kernel
theorem dG_equal_0 : decode bG_equal 0 = .ok (.aload_n 0, 1) := by decide +kernel
theorem dG_equal_1 : decode bG_equal 1 = .ok (.iload_n 1, 1) := by decide +kernel
theorem dG_equal_2 : decode bG_equal 2 = .ok (.invokevirtual 32, 3) := by decide +kernel
theorem dG_gcd_0 : decode bG_gcd 0 = .ok (.aload_n 0, 1) := by decide +kernel
theorem dG_gcd_1 : decode bG_gcd 1 = .ok (.iload_n 1, 1) := by decide +kernel
theorem dG_gcd_2 : decode bG_gcd 2 = .ok (.invokevirtual 32, 3) := by decide +kernel
theorem dG_held_0 : decode bG_held 0 = .ok (.iload_n 1, 1) := by decide +kernel
theorem dG_held_1 : decode bG_held 1 = .ok (.ifCond .lt 20, 3) := by decide +kernel
theorem dG_held_4 : decode bG_held 4 = .ok (.iload_n 1, 1) := by decide +kernel
theorem dG_held_5 : decode bG_held 5 = .ok (.aload_n 0, 1) := by decide +kernel
theorem dG_held_6 : decode bG_held 6 = .ok (.getfield 19, 3) := by decide +kernel
theorem dG_held_9 : decode bG_held 9 = .ok (.if_icmp .ge 12, 3) := by decide +kernel
theorem dG_held_21 : decode bG_held 21 = .ok (.new 137, 3) := by decide +kernel
theorem dG_held_24 : decode bG_held 24 = .ok (.dup, 1) := by decide +kernel
theorem dG_held_25 : decode bG_held 25 = .ok (.ldc 139, 2) := by decide +kernel
theorem dG_held_27 : decode bG_held 27 = .ok (.invokespecial 141, 3) := by decide +kernel
theorem dG_held_30 : decode bG_held 30 = .ok (.athrow, 1) := by decide +kernel
theorem dG_image_0 : decode bG_image 0 = .ok (.aload_n 0, 1) := by decide +kernel
theorem dG_image_1 : decode bG_image 1 = .ok (.iload_n 1, 1) := by decide +kernel
theorem dG_image_2 : decode bG_image 2 = .ok (.invokevirtual 32, 3) := by decide +kernel
theorem dG_init_0 : decode bG_init 0 = .ok (.aload_n 0, 1) := by decide +kernel
theorem dG_init_1 : decode bG_init 1 = .ok (.invokespecial 1, 3) := by decide +kernel
theorem dG_init_4 : decode bG_init 4 = .ok (.aload_n 0, 1) := by decide +kernel
theorem dG_init_5 : decode bG_init 5 = .ok (.iload_n 1, 1) := by decide +kernel
theorem dG_init_6 : decode bG_init 6 = .ok (.iconst 1, 1) := by decide +kernel
theorem dG_init_7 : decode bG_init 7 = .ok (.if_icmp .ge 7, 3) := by decide +kernel
theorem dG_init_10 : decode bG_init 10 = .ok (.iconst 1, 1) := by decide +kernel
theorem dG_init_11 : decode bG_init 11 = .ok (.goto 13, 3) := by decide +kernel
theorem dG_init_14 : decode bG_init 14 = .ok (.iload_n 1, 1) := by decide +kernel
theorem dG_init_15 : decode bG_init 15 = .ok (.iconst 3, 1) := by decide +kernel
theorem dG_init_16 : decode bG_init 16 = .ok (.if_icmp .le 7, 3) := by decide +kernel
theorem dG_init_19 : decode bG_init 19 = .ok (.iconst 3, 1) := by decide +kernel
theorem dG_init_20 : decode bG_init 20 = .ok (.goto 4, 3) := by decide +kernel
theorem dG_init_23 : decode bG_init 23 = .ok (.iload_n 1, 1) := by decide +kernel
theorem dG_init_24 : decode bG_init 24 = .ok (.putfield 9, 3) := by decide +kernel
theorem dG_init_27 : decode bG_init 27 = .ok (.aload_n 0, 1) := by decide +kernel
theorem dG_init_28 : decode bG_init 28 = .ok (.bipush 60, 2) := by decide +kernel
theorem dG_init_30 : decode bG_init 30 = .ok (.anewarray 13, 3) := by decide +kernel
theorem dG_init_33 : decode bG_init 33 = .ok (.putfield 15, 3) := by decide +kernel
theorem dG_init_36 : decode bG_init 36 = .ok (.aload_n 0, 1) := by decide +kernel
theorem dG_init_37 : decode bG_init 37 = .ok (.iconst 0, 1) := by decide +kernel
theorem dG_init_38 : decode bG_init 38 = .ok (.putfield 19, 3) := by decide +kernel
theorem dG_init_41 : decode bG_init 41 = .ok (.return_, 1) := by decide +kernel
theorem dG_keep_0 : decode bG_keep 0 = .ok (.aload_n 0, 1) := by decide +kernel
theorem dG_keep_1 : decode bG_keep 1 = .ok (.getfield 19, 3) := by decide +kernel
theorem dG_keep_4 : decode bG_keep 4 = .ok (.aload_n 0, 1) := by decide +kernel
theorem dG_keep_5 : decode bG_keep 5 = .ok (.getfield 15, 3) := by decide +kernel
theorem dG_keep_8 : decode bG_keep 8 = .ok (.arraylength, 1) := by decide +kernel
theorem dG_keep_9 : decode bG_keep 9 = .ok (.if_icmp .ge 23, 3) := by decide +kernel
theorem dG_keep_12 : decode bG_keep 12 = .ok (.aload_n 0, 1) := by decide +kernel
theorem dG_keep_13 : decode bG_keep 13 = .ok (.getfield 15, 3) := by decide +kernel
theorem dG_keep_16 : decode bG_keep 16 = .ok (.aload_n 0, 1) := by decide +kernel
theorem dG_keep_17 : decode bG_keep 17 = .ok (.getfield 19, 3) := by decide +kernel
theorem dG_keep_20 : decode bG_keep 20 = .ok (.aload_n 1, 1) := by decide +kernel
theorem dG_keep_21 : decode bG_keep 21 = .ok (.aastore, 1) := by decide +kernel
theorem dG_keep_22 : decode bG_keep 22 = .ok (.aload_n 0, 1) := by decide +kernel
theorem dG_keep_23 : decode bG_keep 23 = .ok (.dup, 1) := by decide +kernel
theorem dG_keep_24 : decode bG_keep 24 = .ok (.getfield 19, 3) := by decide +kernel
theorem dG_keep_27 : decode bG_keep 27 = .ok (.iconst 1, 1) := by decide +kernel
theorem dG_keep_28 : decode bG_keep 28 = .ok (.iadd, 1) := by decide +kernel
theorem dG_keep_29 : decode bG_keep 29 = .ok (.putfield 19, 3) := by decide +kernel
theorem dG_keep_32 : decode bG_keep 32 = .ok (.aload_n 0, 1) := by decide +kernel
theorem dG_keep_33 : decode bG_keep 33 = .ok (.getfield 19, 3) := by decide +kernel
theorem dG_keep_36 : decode bG_keep 36 = .ok (.iconst 1, 1) := by decide +kernel
theorem dG_keep_37 : decode bG_keep 37 = .ok (.isub, 1) := by decide +kernel
theorem dG_keep_38 : decode bG_keep 38 = .ok (.ireturn, 1) := by decide +kernel
theorem dG_over_0 : decode bG_over 0 = .ok (.aload_n 0, 1) := by decide +kernel
theorem dG_over_1 : decode bG_over 1 = .ok (.iload_n 1, 1) := by decide +kernel
theorem dG_over_2 : decode bG_over 2 = .ok (.invokevirtual 32, 3) := by decide +kernel
theorem dG_part_0 : decode bG_part 0 = .ok (.aload_n 0, 1) := by decide +kernel
theorem dG_part_1 : decode bG_part 1 = .ok (.iload_n 1, 1) := by decide +kernel
theorem dG_part_2 : decode bG_part 2 = .ok (.invokevirtual 32, 3) := by decide +kernel
theorem dG_poly_0 : decode bG_poly 0 = .ok (.aload_n 0, 1) := by decide +kernel
theorem dG_poly_1 : decode bG_poly 1 = .ok (.invokevirtual 22, 3) := by decide +kernel
theorem dG_poly_4 : decode bG_poly 4 = .ok (.aload_n 0, 1) := by decide +kernel
theorem dG_poly_5 : decode bG_poly 5 = .ok (.new 13, 3) := by decide +kernel
theorem dG_poly_8 : decode bG_poly 8 = .ok (.dup, 1) := by decide +kernel
theorem dG_poly_9 : decode bG_poly 9 = .ok (.iconst 0, 1) := by decide +kernel
theorem dG_poly_10 : decode bG_poly 10 = .ok (.invokespecial 25, 3) := by decide +kernel
theorem dG_poly_13 : decode bG_poly 13 = .ok (.invokevirtual 28, 3) := by decide +kernel
theorem dG_poly_16 : decode bG_poly 16 = .ok (.ireturn, 1) := by decide +kernel
theorem dG_requireRoom_0 : decode bG_requireRoom 0 = .ok (.aload_n 0, 1) := by decide +kernel
theorem dG_requireRoom_1 : decode bG_requireRoom 1 = .ok (.getfield 19, 3) := by decide +kernel
theorem dG_requireRoom_4 : decode bG_requireRoom 4 = .ok (.bipush 60, 2) := by decide +kernel
theorem dG_requireRoom_6 : decode bG_requireRoom 6 = .ok (.if_icmp .lt 13, 3) := by decide +kernel
theorem dG_requireRoom_19 : decode bG_requireRoom 19 = .ok (.return_, 1) := by decide +kernel
theorem dG_resultant_0 : decode bG_resultant 0 = .ok (.aload_n 0, 1) := by decide +kernel
theorem dG_resultant_1 : decode bG_resultant 1 = .ok (.iload_n 1, 1) := by decide +kernel
theorem dG_resultant_2 : decode bG_resultant 2 = .ok (.invokevirtual 32, 3) := by decide +kernel
theorem dG_slope_0 : decode bG_slope 0 = .ok (.aload_n 0, 1) := by decide +kernel
theorem dG_slope_1 : decode bG_slope 1 = .ok (.iload_n 1, 1) := by decide +kernel
theorem dG_slope_2 : decode bG_slope 2 = .ok (.invokevirtual 32, 3) := by decide +kernel
theorem dG_term_0 : decode bG_term 0 = .ok (.aload_n 0, 1) := by decide +kernel
theorem dG_term_1 : decode bG_term 1 = .ok (.iload_n 1, 1) := by decide +kernel
theorem dG_term_2 : decode bG_term 2 = .ok (.invokevirtual 32, 3) := by decide +kernel
theorem dG_terms_0 : decode bG_terms 0 = .ok (.aload_n 0, 1) := by decide +kernel
theorem dG_terms_1 : decode bG_terms 1 = .ok (.iload_n 1, 1) := by decide +kernel
theorem dG_terms_2 : decode bG_terms 2 = .ok (.invokevirtual 32, 3) := by decide +kernel
theorem dG_times_0 : decode bG_times 0 = .ok (.aload_n 0, 1) := by decide +kernel
theorem dG_times_1 : decode bG_times 1 = .ok (.iload_n 1, 1) := by decide +kernel
theorem dG_times_2 : decode bG_times 2 = .ok (.invokevirtual 32, 3) := by decide +kernel
theorem dL_add_0 : decode bL_add 0 = .ok (.aload_n 3, 1) := by decide +kernel
theorem dL_add_1 : decode bL_add 1 = .ok (.iconst 0, 1) := by decide +kernel
theorem dL_add_2 : decode bL_add 2 = .ok (.aload_n 0, 1) := by decide +kernel
theorem dL_add_3 : decode bL_add 3 = .ok (.iload_n 1, 1) := by decide +kernel
end
section
theorem dL_add_4 : decode bL_add 4 = .ok (.iload_n 2, 1) := by decide +kernel
theorem dL_add_5 : decode bL_add 5 = .ok (.invokevirtual 25, 3) := by decide +kernel
theorem dL_add_13 : decode bL_add 13 = .ok (.astore 4, 2) := by decide +kernel
theorem dL_add_15 : decode bL_add 15 = .ok (.iconst 1, 1) := by decide +kernel
theorem dL_add_16 : decode bL_add 16 = .ok (.ireturn, 1) := by decide +kernel
theorem dL_at_0 : decode bL_at 0 = .ok (.aload 4, 2) := by decide +kernel
theorem dL_at_2 : decode bL_at 2 = .ok (.iconst 0, 1) := by decide +kernel
theorem dL_at_3 : decode bL_at 3 = .ok (.aload_n 0, 1) := by decide +kernel
theorem dL_at_4 : decode bL_at 4 = .ok (.iload_n 1, 1) := by decide +kernel
theorem dL_at_5 : decode bL_at 5 = .ok (.iload_n 2, 1) := by decide +kernel
theorem dL_at_6 : decode bL_at 6 = .ok (.iload_n 3, 1) := by decide +kernel
theorem dL_at_7 : decode bL_at 7 = .ok (.invokevirtual 62, 3) := by decide +kernel
theorem dL_at_15 : decode bL_at 15 = .ok (.astore 5, 2) := by decide +kernel
theorem dL_at_17 : decode bL_at 17 = .ok (.iconst 1, 1) := by decide +kernel
theorem dL_at_18 : decode bL_at 18 = .ok (.ireturn, 1) := by decide +kernel
theorem dL_cell_0 : decode bL_cell 0 = .ok (.iload_n 1, 1) := by decide +kernel
theorem dL_cell_1 : decode bL_cell 1 = .ok (.aload_n 0, 1) := by decide +kernel
theorem dL_cell_2 : decode bL_cell 2 = .ok (.arraylength, 1) := by decide +kernel
theorem dL_cell_3 : decode bL_cell 3 = .ok (.if_icmp .ge 9, 3) := by decide +kernel
theorem dL_cell_6 : decode bL_cell 6 = .ok (.aload_n 0, 1) := by decide +kernel
theorem dL_cell_7 : decode bL_cell 7 = .ok (.iload_n 1, 1) := by decide +kernel
theorem dL_cell_8 : decode bL_cell 8 = .ok (.iaload, 1) := by decide +kernel
theorem dL_cell_9 : decode bL_cell 9 = .ok (.goto 4, 3) := by decide +kernel
theorem dL_cell_12 : decode bL_cell 12 = .ok (.iconst 0, 1) := by decide +kernel
theorem dL_cell_13 : decode bL_cell 13 = .ok (.ireturn, 1) := by decide +kernel
theorem dL_content_0 : decode bL_content 0 = .ok (.aload_n 3, 1) := by decide +kernel
theorem dL_content_1 : decode bL_content 1 = .ok (.iconst 0, 1) := by decide +kernel
theorem dL_content_2 : decode bL_content 2 = .ok (.aload_n 0, 1) := by decide +kernel
theorem dL_content_3 : decode bL_content 3 = .ok (.iload_n 1, 1) := by decide +kernel
theorem dL_content_4 : decode bL_content 4 = .ok (.iload_n 2, 1) := by decide +kernel
theorem dL_content_5 : decode bL_content 5 = .ok (.invokevirtual 45, 3) := by decide +kernel
theorem dL_content_13 : decode bL_content 13 = .ok (.astore 4, 2) := by decide +kernel
theorem dL_content_15 : decode bL_content 15 = .ok (.iconst 1, 1) := by decide +kernel
theorem dL_content_16 : decode bL_content 16 = .ok (.ireturn, 1) := by decide +kernel
theorem dL_degree_0 : decode bL_degree 0 = .ok (.aload_n 3, 1) := by decide +kernel
theorem dL_degree_1 : decode bL_degree 1 = .ok (.iconst 0, 1) := by decide +kernel
theorem dL_degree_2 : decode bL_degree 2 = .ok (.aload_n 0, 1) := by decide +kernel
theorem dL_degree_3 : decode bL_degree 3 = .ok (.iload_n 1, 1) := by decide +kernel
theorem dL_degree_4 : decode bL_degree 4 = .ok (.iload_n 2, 1) := by decide +kernel
theorem dL_degree_5 : decode bL_degree 5 = .ok (.invokevirtual 65, 3) := by decide +kernel
theorem dL_degree_13 : decode bL_degree 13 = .ok (.astore 4, 2) := by decide +kernel
theorem dL_degree_15 : decode bL_degree 15 = .ok (.iconst 1, 1) := by decide +kernel
theorem dL_degree_16 : decode bL_degree 16 = .ok (.ireturn, 1) := by decide +kernel
theorem dL_equal_0 : decode bL_equal 0 = .ok (.aload_n 3, 1) := by decide +kernel
theorem dL_equal_1 : decode bL_equal 1 = .ok (.iconst 0, 1) := by decide +kernel
theorem dL_equal_2 : decode bL_equal 2 = .ok (.aload_n 0, 1) := by decide +kernel
theorem dL_equal_3 : decode bL_equal 3 = .ok (.iload_n 1, 1) := by decide +kernel
theorem dL_equal_4 : decode bL_equal 4 = .ok (.iload_n 2, 1) := by decide +kernel
theorem dL_equal_5 : decode bL_equal 5 = .ok (.invokevirtual 54, 3) := by decide +kernel
theorem dL_equal_20 : decode bL_equal 20 = .ok (.astore 4, 2) := by decide +kernel
theorem dL_equal_22 : decode bL_equal 22 = .ok (.iconst 1, 1) := by decide +kernel
theorem dL_equal_23 : decode bL_equal 23 = .ok (.ireturn, 1) := by decide +kernel
theorem dL_gcd_0 : decode bL_gcd 0 = .ok (.aload_n 3, 1) := by decide +kernel
theorem dL_gcd_1 : decode bL_gcd 1 = .ok (.iconst 0, 1) := by decide +kernel
theorem dL_gcd_2 : decode bL_gcd 2 = .ok (.aload_n 0, 1) := by decide +kernel
theorem dL_gcd_3 : decode bL_gcd 3 = .ok (.iload_n 1, 1) := by decide +kernel
theorem dL_gcd_4 : decode bL_gcd 4 = .ok (.iload_n 2, 1) := by decide +kernel
theorem dL_gcd_5 : decode bL_gcd 5 = .ok (.invokevirtual 35, 3) := by decide +kernel
theorem dL_gcd_13 : decode bL_gcd 13 = .ok (.astore 4, 2) := by decide +kernel
theorem dL_gcd_15 : decode bL_gcd 15 = .ok (.iconst 1, 1) := by decide +kernel
theorem dL_gcd_16 : decode bL_gcd 16 = .ok (.ireturn, 1) := by decide +kernel
theorem dL_image_0 : decode bL_image 0 = .ok (.aload 4, 2) := by decide +kernel
theorem dL_image_2 : decode bL_image 2 = .ok (.iconst 0, 1) := by decide +kernel
theorem dL_image_3 : decode bL_image 3 = .ok (.aload_n 0, 1) := by decide +kernel
theorem dL_image_4 : decode bL_image 4 = .ok (.iload_n 1, 1) := by decide +kernel
theorem dL_image_5 : decode bL_image 5 = .ok (.iload_n 2, 1) := by decide +kernel
theorem dL_image_6 : decode bL_image 6 = .ok (.iload_n 3, 1) := by decide +kernel
theorem dL_image_7 : decode bL_image 7 = .ok (.invokevirtual 51, 3) := by decide +kernel
theorem dL_image_15 : decode bL_image 15 = .ok (.astore 5, 2) := by decide +kernel
theorem dL_image_17 : decode bL_image 17 = .ok (.iconst 1, 1) := by decide +kernel
theorem dL_image_18 : decode bL_image 18 = .ok (.ireturn, 1) := by decide +kernel
theorem dL_law_0 : decode bL_law 0 = .ok (.new 8, 3) := by decide +kernel
theorem dL_law_3 : decode bL_law 3 = .ok (.dup, 1) := by decide +kernel
theorem dL_law_4 : decode bL_law 4 = .ok (.aload_n 0, 1) := by decide +kernel
theorem dL_law_5 : decode bL_law 5 = .ok (.iconst 0, 1) := by decide +kernel
theorem dL_law_6 : decode bL_law 6 = .ok (.invokestatic 68, 3) := by decide +kernel
theorem dL_law_9 : decode bL_law 9 = .ok (.invokespecial 74, 3) := by decide +kernel
theorem dL_law_12 : decode bL_law 12 = .ok (.astore_n 1, 1) := by decide +kernel
theorem dL_law_13 : decode bL_law 13 = .ok (.new 77, 3) := by decide +kernel
theorem dL_law_16 : decode bL_law 16 = .ok (.dup, 1) := by decide +kernel
theorem dL_law_17 : decode bL_law 17 = .ok (.aload_n 0, 1) := by decide +kernel
theorem dL_law_18 : decode bL_law 18 = .ok (.iconst 0, 1) := by decide +kernel
theorem dL_law_19 : decode bL_law 19 = .ok (.invokestatic 68, 3) := by decide +kernel
theorem dL_law_22 : decode bL_law 22 = .ok (.invokespecial 79, 3) := by decide +kernel
theorem dL_law_25 : decode bL_law 25 = .ok (.astore_n 2, 1) := by decide +kernel
theorem dL_law_26 : decode bL_law 26 = .ok (.iconst 1, 1) := by decide +kernel
theorem dL_law_27 : decode bL_law 27 = .ok (.newarray .long, 2) := by decide +kernel
theorem dL_law_29 : decode bL_law 29 = .ok (.astore_n 3, 1) := by decide +kernel
theorem dL_law_30 : decode bL_law 30 = .ok (.iconst 1, 1) := by decide +kernel
theorem dL_law_31 : decode bL_law 31 = .ok (.istore 4, 2) := by decide +kernel
theorem dL_law_33 : decode bL_law 33 = .ok (.iload 4, 2) := by decide +kernel
theorem dL_law_35 : decode bL_law 35 = .ok (.aload_n 0, 1) := by decide +kernel
theorem dL_law_36 : decode bL_law 36 = .ok (.arraylength, 1) := by decide +kernel
theorem dL_law_37 : decode bL_law 37 = .ok (.bipush 7, 2) := by decide +kernel
theorem dL_law_39 : decode bL_law 39 = .ok (.isub, 1) := by decide +kernel
theorem dL_law_40 : decode bL_law 40 = .ok (.if_icmp .gt 1231, 3) := by decide +kernel
theorem dL_law_43 : decode bL_law 43 = .ok (.aload_n 0, 1) := by decide +kernel
theorem dL_law_44 : decode bL_law 44 = .ok (.iload 4, 2) := by decide +kernel
theorem dL_law_46 : decode bL_law 46 = .ok (.iaload, 1) := by decide +kernel
theorem dL_law_47 : decode bL_law 47 = .ok (.bipush 15, 2) := by decide +kernel
theorem dL_law_49 : decode bL_law 49 = .ok (.iand, 1) := by decide +kernel
theorem dL_law_50 : decode bL_law 50 = .ok (.tableswitch 1215 0 15 #[78, 122, 287, 355, 423, 491, 559, 639, 707, 775, 843, 923, 998, 1054, 1134, 1202], 78) := by decide +kernel
theorem dL_law_128 : decode bL_law 128 = .ok (.aload_n 1, 1) := by decide +kernel
theorem dL_law_129 : decode bL_law 129 = .ok (.aload_n 3, 1) := by decide +kernel
theorem dL_law_130 : decode bL_law 130 = .ok (.invokestatic 80, 3) := by decide +kernel
theorem dL_law_133 : decode bL_law 133 = .ok (.istore 5, 2) := by decide +kernel
theorem dL_law_135 : decode bL_law 135 = .ok (.aload_n 2, 1) := by decide +kernel
theorem dL_law_136 : decode bL_law 136 = .ok (.invokevirtual 83, 3) := by decide +kernel
theorem dL_law_139 : decode bL_law 139 = .ok (.istore 6, 2) := by decide +kernel
theorem dL_law_141 : decode bL_law 141 = .ok (.aload_n 2, 1) := by decide +kernel
theorem dL_law_142 : decode bL_law 142 = .ok (.invokevirtual 84, 3) := by decide +kernel
theorem dL_law_145 : decode bL_law 145 = .ok (.iload 5, 2) := by decide +kernel
theorem dL_law_147 : decode bL_law 147 = .ok (.if_icmp .eq 5, 3) := by decide +kernel
theorem dL_law_152 : decode bL_law 152 = .ok (.iload 5, 2) := by decide +kernel
theorem dL_law_154 : decode bL_law 154 = .ok (.ifCond .ne 15, 3) := by decide +kernel
theorem dL_law_157 : decode bL_law 157 = .ok (.aload_n 3, 1) := by decide +kernel
theorem dL_law_158 : decode bL_law 158 = .ok (.iconst 0, 1) := by decide +kernel
theorem dL_law_159 : decode bL_law 159 = .ok (.laload, 1) := by decide +kernel
theorem dL_law_160 : decode bL_law 160 = .ok (.iload 6, 2) := by decide +kernel
theorem dL_law_162 : decode bL_law 162 = .ok (.i2l, 1) := by decide +kernel
end
section
theorem dL_law_163 : decode bL_law 163 = .ok (.lcmp, 1) := by decide +kernel
theorem dL_law_164 : decode bL_law 164 = .ok (.ifCond .eq 5, 3) := by decide +kernel
theorem dL_law_169 : decode bL_law 169 = .ok (.goto 1096, 3) := by decide +kernel
theorem dL_law_172 : decode bL_law 172 = .ok (.aload_n 1, 1) := by decide +kernel
theorem dL_law_173 : decode bL_law 173 = .ok (.aload_n 0, 1) := by decide +kernel
theorem dL_law_174 : decode bL_law 174 = .ok (.iload 4, 2) := by decide +kernel
theorem dL_law_176 : decode bL_law 176 = .ok (.iconst 1, 1) := by decide +kernel
theorem dL_law_177 : decode bL_law 177 = .ok (.iadd, 1) := by decide +kernel
theorem dL_law_178 : decode bL_law 178 = .ok (.iaload, 1) := by decide +kernel
theorem dL_law_179 : decode bL_law 179 = .ok (.aload_n 0, 1) := by decide +kernel
theorem dL_law_180 : decode bL_law 180 = .ok (.iload 4, 2) := by decide +kernel
theorem dL_law_182 : decode bL_law 182 = .ok (.iconst 2, 1) := by decide +kernel
theorem dL_law_183 : decode bL_law 183 = .ok (.iadd, 1) := by decide +kernel
theorem dL_law_184 : decode bL_law 184 = .ok (.iaload, 1) := by decide +kernel
theorem dL_law_185 : decode bL_law 185 = .ok (.i2l, 1) := by decide +kernel
theorem dL_law_186 : decode bL_law 186 = .ok (.bipush 32, 2) := by decide +kernel
theorem dL_law_188 : decode bL_law 188 = .ok (.lshl, 1) := by decide +kernel
theorem dL_law_189 : decode bL_law 189 = .ok (.aload_n 0, 1) := by decide +kernel
theorem dL_law_190 : decode bL_law 190 = .ok (.iload 4, 2) := by decide +kernel
theorem dL_law_192 : decode bL_law 192 = .ok (.iconst 3, 1) := by decide +kernel
theorem dL_law_193 : decode bL_law 193 = .ok (.iadd, 1) := by decide +kernel
theorem dL_law_194 : decode bL_law 194 = .ok (.iaload, 1) := by decide +kernel
theorem dL_law_195 : decode bL_law 195 = .ok (.i2l, 1) := by decide +kernel
theorem dL_law_196 : decode bL_law 196 = .ok (.ldc2_w 87, 3) := by decide +kernel
theorem dL_law_199 : decode bL_law 199 = .ok (.land, 1) := by decide +kernel
theorem dL_law_200 : decode bL_law 200 = .ok (.lor, 1) := by decide +kernel
theorem dL_law_201 : decode bL_law 201 = .ok (.aload_n 0, 1) := by decide +kernel
theorem dL_law_202 : decode bL_law 202 = .ok (.iload 4, 2) := by decide +kernel
theorem dL_law_204 : decode bL_law 204 = .ok (.iconst 4, 1) := by decide +kernel
theorem dL_law_205 : decode bL_law 205 = .ok (.iadd, 1) := by decide +kernel
theorem dL_law_206 : decode bL_law 206 = .ok (.iaload, 1) := by decide +kernel
theorem dL_law_207 : decode bL_law 207 = .ok (.i2l, 1) := by decide +kernel
theorem dL_law_208 : decode bL_law 208 = .ok (.bipush 32, 2) := by decide +kernel
theorem dL_law_210 : decode bL_law 210 = .ok (.lshl, 1) := by decide +kernel
theorem dL_law_211 : decode bL_law 211 = .ok (.aload_n 0, 1) := by decide +kernel
theorem dL_law_212 : decode bL_law 212 = .ok (.iload 4, 2) := by decide +kernel
theorem dL_law_214 : decode bL_law 214 = .ok (.iconst 5, 1) := by decide +kernel
theorem dL_law_215 : decode bL_law 215 = .ok (.iadd, 1) := by decide +kernel
theorem dL_law_216 : decode bL_law 216 = .ok (.iaload, 1) := by decide +kernel
theorem dL_law_217 : decode bL_law 217 = .ok (.i2l, 1) := by decide +kernel
theorem dL_law_218 : decode bL_law 218 = .ok (.ldc2_w 87, 3) := by decide +kernel
theorem dL_law_221 : decode bL_law 221 = .ok (.land, 1) := by decide +kernel
theorem dL_law_222 : decode bL_law 222 = .ok (.lor, 1) := by decide +kernel
theorem dL_law_223 : decode bL_law 223 = .ok (.aload_n 0, 1) := by decide +kernel
theorem dL_law_224 : decode bL_law 224 = .ok (.iload 4, 2) := by decide +kernel
theorem dL_law_226 : decode bL_law 226 = .ok (.bipush 6, 2) := by decide +kernel
theorem dL_law_228 : decode bL_law 228 = .ok (.iadd, 1) := by decide +kernel
theorem dL_law_229 : decode bL_law 229 = .ok (.iaload, 1) := by decide +kernel
theorem dL_law_230 : decode bL_law 230 = .ok (.aload_n 3, 1) := by decide +kernel
theorem dL_law_231 : decode bL_law 231 = .ok (.invokestatic 89, 3) := by decide +kernel
theorem dL_law_234 : decode bL_law 234 = .ok (.istore 5, 2) := by decide +kernel
theorem dL_law_236 : decode bL_law 236 = .ok (.aload_n 2, 1) := by decide +kernel
theorem dL_law_237 : decode bL_law 237 = .ok (.aload_n 0, 1) := by decide +kernel
theorem dL_law_238 : decode bL_law 238 = .ok (.iload 4, 2) := by decide +kernel
theorem dL_law_240 : decode bL_law 240 = .ok (.iconst 1, 1) := by decide +kernel
theorem dL_law_241 : decode bL_law 241 = .ok (.iadd, 1) := by decide +kernel
theorem dL_law_242 : decode bL_law 242 = .ok (.iaload, 1) := by decide +kernel
theorem dL_law_243 : decode bL_law 243 = .ok (.aload_n 0, 1) := by decide +kernel
theorem dL_law_244 : decode bL_law 244 = .ok (.iload 4, 2) := by decide +kernel
theorem dL_law_246 : decode bL_law 246 = .ok (.iconst 2, 1) := by decide +kernel
theorem dL_law_247 : decode bL_law 247 = .ok (.iadd, 1) := by decide +kernel
theorem dL_law_248 : decode bL_law 248 = .ok (.iaload, 1) := by decide +kernel
theorem dL_law_249 : decode bL_law 249 = .ok (.i2l, 1) := by decide +kernel
theorem dL_law_250 : decode bL_law 250 = .ok (.bipush 32, 2) := by decide +kernel
theorem dL_law_252 : decode bL_law 252 = .ok (.lshl, 1) := by decide +kernel
theorem dL_law_253 : decode bL_law 253 = .ok (.aload_n 0, 1) := by decide +kernel
theorem dL_law_254 : decode bL_law 254 = .ok (.iload 4, 2) := by decide +kernel
theorem dL_law_256 : decode bL_law 256 = .ok (.iconst 3, 1) := by decide +kernel
theorem dL_law_257 : decode bL_law 257 = .ok (.iadd, 1) := by decide +kernel
theorem dL_law_258 : decode bL_law 258 = .ok (.iaload, 1) := by decide +kernel
theorem dL_law_259 : decode bL_law 259 = .ok (.i2l, 1) := by decide +kernel
theorem dL_law_260 : decode bL_law 260 = .ok (.ldc2_w 87, 3) := by decide +kernel
theorem dL_law_263 : decode bL_law 263 = .ok (.land, 1) := by decide +kernel
theorem dL_law_264 : decode bL_law 264 = .ok (.lor, 1) := by decide +kernel
theorem dL_law_265 : decode bL_law 265 = .ok (.aload_n 0, 1) := by decide +kernel
theorem dL_law_266 : decode bL_law 266 = .ok (.iload 4, 2) := by decide +kernel
theorem dL_law_268 : decode bL_law 268 = .ok (.iconst 4, 1) := by decide +kernel
theorem dL_law_269 : decode bL_law 269 = .ok (.iadd, 1) := by decide +kernel
theorem dL_law_270 : decode bL_law 270 = .ok (.iaload, 1) := by decide +kernel
theorem dL_law_271 : decode bL_law 271 = .ok (.i2l, 1) := by decide +kernel
theorem dL_law_272 : decode bL_law 272 = .ok (.bipush 32, 2) := by decide +kernel
theorem dL_law_274 : decode bL_law 274 = .ok (.lshl, 1) := by decide +kernel
theorem dL_law_275 : decode bL_law 275 = .ok (.aload_n 0, 1) := by decide +kernel
theorem dL_law_276 : decode bL_law 276 = .ok (.iload 4, 2) := by decide +kernel
theorem dL_law_278 : decode bL_law 278 = .ok (.iconst 5, 1) := by decide +kernel
theorem dL_law_279 : decode bL_law 279 = .ok (.iadd, 1) := by decide +kernel
theorem dL_law_280 : decode bL_law 280 = .ok (.iaload, 1) := by decide +kernel
theorem dL_law_281 : decode bL_law 281 = .ok (.i2l, 1) := by decide +kernel
theorem dL_law_282 : decode bL_law 282 = .ok (.ldc2_w 87, 3) := by decide +kernel
theorem dL_law_285 : decode bL_law 285 = .ok (.land, 1) := by decide +kernel
theorem dL_law_286 : decode bL_law 286 = .ok (.lor, 1) := by decide +kernel
theorem dL_law_287 : decode bL_law 287 = .ok (.aload_n 0, 1) := by decide +kernel
theorem dL_law_288 : decode bL_law 288 = .ok (.iload 4, 2) := by decide +kernel
theorem dL_law_290 : decode bL_law 290 = .ok (.bipush 6, 2) := by decide +kernel
theorem dL_law_292 : decode bL_law 292 = .ok (.iadd, 1) := by decide +kernel
theorem dL_law_293 : decode bL_law 293 = .ok (.iaload, 1) := by decide +kernel
theorem dL_law_294 : decode bL_law 294 = .ok (.invokevirtual 92, 3) := by decide +kernel
theorem dL_law_297 : decode bL_law 297 = .ok (.istore 6, 2) := by decide +kernel
theorem dL_law_299 : decode bL_law 299 = .ok (.aload_n 2, 1) := by decide +kernel
theorem dL_law_300 : decode bL_law 300 = .ok (.invokevirtual 84, 3) := by decide +kernel
theorem dL_law_303 : decode bL_law 303 = .ok (.iload 5, 2) := by decide +kernel
theorem dL_law_305 : decode bL_law 305 = .ok (.if_icmp .eq 5, 3) := by decide +kernel
theorem dL_law_310 : decode bL_law 310 = .ok (.iload 5, 2) := by decide +kernel
theorem dL_law_312 : decode bL_law 312 = .ok (.ifCond .ne 22, 3) := by decide +kernel
theorem dL_law_334 : decode bL_law 334 = .ok (.goto 931, 3) := by decide +kernel
theorem dL_law_337 : decode bL_law 337 = .ok (.aload_n 1, 1) := by decide +kernel
theorem dL_law_338 : decode bL_law 338 = .ok (.aload_n 0, 1) := by decide +kernel
theorem dL_law_339 : decode bL_law 339 = .ok (.iload 4, 2) := by decide +kernel
theorem dL_law_341 : decode bL_law 341 = .ok (.iconst 1, 1) := by decide +kernel
theorem dL_law_342 : decode bL_law 342 = .ok (.iadd, 1) := by decide +kernel
theorem dL_law_343 : decode bL_law 343 = .ok (.iaload, 1) := by decide +kernel
theorem dL_law_344 : decode bL_law 344 = .ok (.aload_n 0, 1) := by decide +kernel
theorem dL_law_345 : decode bL_law 345 = .ok (.iload 4, 2) := by decide +kernel
theorem dL_law_347 : decode bL_law 347 = .ok (.iconst 2, 1) := by decide +kernel
theorem dL_law_348 : decode bL_law 348 = .ok (.iadd, 1) := by decide +kernel
theorem dL_law_349 : decode bL_law 349 = .ok (.iaload, 1) := by decide +kernel
theorem dL_law_350 : decode bL_law 350 = .ok (.aload_n 3, 1) := by decide +kernel
theorem dL_law_351 : decode bL_law 351 = .ok (.invokestatic 93, 3) := by decide +kernel
theorem dL_law_354 : decode bL_law 354 = .ok (.istore 5, 2) := by decide +kernel
theorem dL_law_356 : decode bL_law 356 = .ok (.aload_n 2, 1) := by decide +kernel
end
section
theorem dL_law_357 : decode bL_law 357 = .ok (.aload_n 0, 1) := by decide +kernel
theorem dL_law_358 : decode bL_law 358 = .ok (.iload 4, 2) := by decide +kernel
theorem dL_law_360 : decode bL_law 360 = .ok (.iconst 1, 1) := by decide +kernel
theorem dL_law_361 : decode bL_law 361 = .ok (.iadd, 1) := by decide +kernel
theorem dL_law_362 : decode bL_law 362 = .ok (.iaload, 1) := by decide +kernel
theorem dL_law_363 : decode bL_law 363 = .ok (.aload_n 0, 1) := by decide +kernel
theorem dL_law_364 : decode bL_law 364 = .ok (.iload 4, 2) := by decide +kernel
theorem dL_law_366 : decode bL_law 366 = .ok (.iconst 2, 1) := by decide +kernel
theorem dL_law_367 : decode bL_law 367 = .ok (.iadd, 1) := by decide +kernel
theorem dL_law_368 : decode bL_law 368 = .ok (.iaload, 1) := by decide +kernel
theorem dL_law_369 : decode bL_law 369 = .ok (.invokevirtual 96, 3) := by decide +kernel
theorem dL_law_372 : decode bL_law 372 = .ok (.istore 6, 2) := by decide +kernel
theorem dL_law_374 : decode bL_law 374 = .ok (.aload_n 2, 1) := by decide +kernel
theorem dL_law_375 : decode bL_law 375 = .ok (.invokevirtual 84, 3) := by decide +kernel
theorem dL_law_378 : decode bL_law 378 = .ok (.iload 5, 2) := by decide +kernel
theorem dL_law_380 : decode bL_law 380 = .ok (.if_icmp .eq 5, 3) := by decide +kernel
theorem dL_law_385 : decode bL_law 385 = .ok (.iload 5, 2) := by decide +kernel
theorem dL_law_387 : decode bL_law 387 = .ok (.ifCond .ne 15, 3) := by decide +kernel
theorem dL_law_402 : decode bL_law 402 = .ok (.goto 863, 3) := by decide +kernel
theorem dL_law_405 : decode bL_law 405 = .ok (.aload_n 1, 1) := by decide +kernel
theorem dL_law_406 : decode bL_law 406 = .ok (.aload_n 0, 1) := by decide +kernel
theorem dL_law_407 : decode bL_law 407 = .ok (.iload 4, 2) := by decide +kernel
theorem dL_law_409 : decode bL_law 409 = .ok (.iconst 1, 1) := by decide +kernel
theorem dL_law_410 : decode bL_law 410 = .ok (.iadd, 1) := by decide +kernel
theorem dL_law_411 : decode bL_law 411 = .ok (.iaload, 1) := by decide +kernel
theorem dL_law_412 : decode bL_law 412 = .ok (.aload_n 0, 1) := by decide +kernel
theorem dL_law_413 : decode bL_law 413 = .ok (.iload 4, 2) := by decide +kernel
theorem dL_law_415 : decode bL_law 415 = .ok (.iconst 2, 1) := by decide +kernel
theorem dL_law_416 : decode bL_law 416 = .ok (.iadd, 1) := by decide +kernel
theorem dL_law_417 : decode bL_law 417 = .ok (.iaload, 1) := by decide +kernel
theorem dL_law_418 : decode bL_law 418 = .ok (.aload_n 3, 1) := by decide +kernel
theorem dL_law_419 : decode bL_law 419 = .ok (.invokestatic 97, 3) := by decide +kernel
theorem dL_law_422 : decode bL_law 422 = .ok (.istore 5, 2) := by decide +kernel
theorem dL_law_424 : decode bL_law 424 = .ok (.aload_n 2, 1) := by decide +kernel
theorem dL_law_425 : decode bL_law 425 = .ok (.aload_n 0, 1) := by decide +kernel
theorem dL_law_426 : decode bL_law 426 = .ok (.iload 4, 2) := by decide +kernel
theorem dL_law_428 : decode bL_law 428 = .ok (.iconst 1, 1) := by decide +kernel
theorem dL_law_429 : decode bL_law 429 = .ok (.iadd, 1) := by decide +kernel
theorem dL_law_430 : decode bL_law 430 = .ok (.iaload, 1) := by decide +kernel
theorem dL_law_431 : decode bL_law 431 = .ok (.aload_n 0, 1) := by decide +kernel
theorem dL_law_432 : decode bL_law 432 = .ok (.iload 4, 2) := by decide +kernel
theorem dL_law_434 : decode bL_law 434 = .ok (.iconst 2, 1) := by decide +kernel
theorem dL_law_435 : decode bL_law 435 = .ok (.iadd, 1) := by decide +kernel
theorem dL_law_436 : decode bL_law 436 = .ok (.iaload, 1) := by decide +kernel
theorem dL_law_437 : decode bL_law 437 = .ok (.invokevirtual 99, 3) := by decide +kernel
theorem dL_law_440 : decode bL_law 440 = .ok (.istore 6, 2) := by decide +kernel
theorem dL_law_442 : decode bL_law 442 = .ok (.aload_n 2, 1) := by decide +kernel
theorem dL_law_443 : decode bL_law 443 = .ok (.invokevirtual 84, 3) := by decide +kernel
theorem dL_law_446 : decode bL_law 446 = .ok (.iload 5, 2) := by decide +kernel
theorem dL_law_448 : decode bL_law 448 = .ok (.if_icmp .eq 5, 3) := by decide +kernel
theorem dL_law_453 : decode bL_law 453 = .ok (.iload 5, 2) := by decide +kernel
theorem dL_law_455 : decode bL_law 455 = .ok (.ifCond .ne 15, 3) := by decide +kernel
theorem dL_law_470 : decode bL_law 470 = .ok (.goto 795, 3) := by decide +kernel
theorem dL_law_473 : decode bL_law 473 = .ok (.aload_n 1, 1) := by decide +kernel
theorem dL_law_474 : decode bL_law 474 = .ok (.aload_n 0, 1) := by decide +kernel
theorem dL_law_475 : decode bL_law 475 = .ok (.iload 4, 2) := by decide +kernel
theorem dL_law_477 : decode bL_law 477 = .ok (.iconst 1, 1) := by decide +kernel
theorem dL_law_478 : decode bL_law 478 = .ok (.iadd, 1) := by decide +kernel
theorem dL_law_479 : decode bL_law 479 = .ok (.iaload, 1) := by decide +kernel
theorem dL_law_480 : decode bL_law 480 = .ok (.aload_n 0, 1) := by decide +kernel
theorem dL_law_481 : decode bL_law 481 = .ok (.iload 4, 2) := by decide +kernel
theorem dL_law_483 : decode bL_law 483 = .ok (.iconst 2, 1) := by decide +kernel
theorem dL_law_484 : decode bL_law 484 = .ok (.iadd, 1) := by decide +kernel
theorem dL_law_485 : decode bL_law 485 = .ok (.iaload, 1) := by decide +kernel
theorem dL_law_486 : decode bL_law 486 = .ok (.aload_n 3, 1) := by decide +kernel
theorem dL_law_487 : decode bL_law 487 = .ok (.invokestatic 100, 3) := by decide +kernel
theorem dL_law_490 : decode bL_law 490 = .ok (.istore 5, 2) := by decide +kernel
theorem dL_law_492 : decode bL_law 492 = .ok (.aload_n 2, 1) := by decide +kernel
theorem dL_law_493 : decode bL_law 493 = .ok (.aload_n 0, 1) := by decide +kernel
theorem dL_law_494 : decode bL_law 494 = .ok (.iload 4, 2) := by decide +kernel
theorem dL_law_496 : decode bL_law 496 = .ok (.iconst 1, 1) := by decide +kernel
theorem dL_law_497 : decode bL_law 497 = .ok (.iadd, 1) := by decide +kernel
theorem dL_law_498 : decode bL_law 498 = .ok (.iaload, 1) := by decide +kernel
theorem dL_law_499 : decode bL_law 499 = .ok (.aload_n 0, 1) := by decide +kernel
theorem dL_law_500 : decode bL_law 500 = .ok (.iload 4, 2) := by decide +kernel
theorem dL_law_502 : decode bL_law 502 = .ok (.iconst 2, 1) := by decide +kernel
theorem dL_law_503 : decode bL_law 503 = .ok (.iadd, 1) := by decide +kernel
theorem dL_law_504 : decode bL_law 504 = .ok (.iaload, 1) := by decide +kernel
theorem dL_law_505 : decode bL_law 505 = .ok (.invokevirtual 102, 3) := by decide +kernel
theorem dL_law_508 : decode bL_law 508 = .ok (.istore 6, 2) := by decide +kernel
theorem dL_law_510 : decode bL_law 510 = .ok (.aload_n 2, 1) := by decide +kernel
theorem dL_law_511 : decode bL_law 511 = .ok (.invokevirtual 84, 3) := by decide +kernel
theorem dL_law_514 : decode bL_law 514 = .ok (.iload 5, 2) := by decide +kernel
theorem dL_law_516 : decode bL_law 516 = .ok (.if_icmp .eq 5, 3) := by decide +kernel
theorem dL_law_521 : decode bL_law 521 = .ok (.iload 5, 2) := by decide +kernel
theorem dL_law_523 : decode bL_law 523 = .ok (.ifCond .ne 15, 3) := by decide +kernel
theorem dL_law_538 : decode bL_law 538 = .ok (.goto 727, 3) := by decide +kernel
theorem dL_law_541 : decode bL_law 541 = .ok (.aload_n 1, 1) := by decide +kernel
theorem dL_law_542 : decode bL_law 542 = .ok (.aload_n 0, 1) := by decide +kernel
theorem dL_law_543 : decode bL_law 543 = .ok (.iload 4, 2) := by decide +kernel
theorem dL_law_545 : decode bL_law 545 = .ok (.iconst 1, 1) := by decide +kernel
theorem dL_law_546 : decode bL_law 546 = .ok (.iadd, 1) := by decide +kernel
theorem dL_law_547 : decode bL_law 547 = .ok (.iaload, 1) := by decide +kernel
theorem dL_law_548 : decode bL_law 548 = .ok (.aload_n 0, 1) := by decide +kernel
theorem dL_law_549 : decode bL_law 549 = .ok (.iload 4, 2) := by decide +kernel
theorem dL_law_551 : decode bL_law 551 = .ok (.iconst 2, 1) := by decide +kernel
theorem dL_law_552 : decode bL_law 552 = .ok (.iadd, 1) := by decide +kernel
theorem dL_law_553 : decode bL_law 553 = .ok (.iaload, 1) := by decide +kernel
theorem dL_law_554 : decode bL_law 554 = .ok (.aload_n 3, 1) := by decide +kernel
theorem dL_law_555 : decode bL_law 555 = .ok (.invokestatic 103, 3) := by decide +kernel
theorem dL_law_558 : decode bL_law 558 = .ok (.istore 5, 2) := by decide +kernel
theorem dL_law_560 : decode bL_law 560 = .ok (.aload_n 2, 1) := by decide +kernel
theorem dL_law_561 : decode bL_law 561 = .ok (.aload_n 0, 1) := by decide +kernel
theorem dL_law_562 : decode bL_law 562 = .ok (.iload 4, 2) := by decide +kernel
theorem dL_law_564 : decode bL_law 564 = .ok (.iconst 1, 1) := by decide +kernel
theorem dL_law_565 : decode bL_law 565 = .ok (.iadd, 1) := by decide +kernel
theorem dL_law_566 : decode bL_law 566 = .ok (.iaload, 1) := by decide +kernel
theorem dL_law_567 : decode bL_law 567 = .ok (.aload_n 0, 1) := by decide +kernel
theorem dL_law_568 : decode bL_law 568 = .ok (.iload 4, 2) := by decide +kernel
theorem dL_law_570 : decode bL_law 570 = .ok (.iconst 2, 1) := by decide +kernel
theorem dL_law_571 : decode bL_law 571 = .ok (.iadd, 1) := by decide +kernel
theorem dL_law_572 : decode bL_law 572 = .ok (.iaload, 1) := by decide +kernel
theorem dL_law_573 : decode bL_law 573 = .ok (.invokevirtual 105, 3) := by decide +kernel
theorem dL_law_576 : decode bL_law 576 = .ok (.istore 6, 2) := by decide +kernel
theorem dL_law_578 : decode bL_law 578 = .ok (.aload_n 2, 1) := by decide +kernel
theorem dL_law_579 : decode bL_law 579 = .ok (.invokevirtual 84, 3) := by decide +kernel
theorem dL_law_582 : decode bL_law 582 = .ok (.iload 5, 2) := by decide +kernel
theorem dL_law_584 : decode bL_law 584 = .ok (.if_icmp .eq 5, 3) := by decide +kernel
theorem dL_law_589 : decode bL_law 589 = .ok (.iload 5, 2) := by decide +kernel
theorem dL_law_591 : decode bL_law 591 = .ok (.ifCond .ne 15, 3) := by decide +kernel
end
section
theorem dL_law_606 : decode bL_law 606 = .ok (.goto 659, 3) := by decide +kernel
theorem dL_law_609 : decode bL_law 609 = .ok (.aload_n 1, 1) := by decide +kernel
theorem dL_law_610 : decode bL_law 610 = .ok (.aload_n 0, 1) := by decide +kernel
theorem dL_law_611 : decode bL_law 611 = .ok (.iload 4, 2) := by decide +kernel
theorem dL_law_613 : decode bL_law 613 = .ok (.iconst 1, 1) := by decide +kernel
theorem dL_law_614 : decode bL_law 614 = .ok (.iadd, 1) := by decide +kernel
theorem dL_law_615 : decode bL_law 615 = .ok (.iaload, 1) := by decide +kernel
theorem dL_law_616 : decode bL_law 616 = .ok (.aload_n 0, 1) := by decide +kernel
theorem dL_law_617 : decode bL_law 617 = .ok (.iload 4, 2) := by decide +kernel
theorem dL_law_619 : decode bL_law 619 = .ok (.iconst 2, 1) := by decide +kernel
theorem dL_law_620 : decode bL_law 620 = .ok (.iadd, 1) := by decide +kernel
theorem dL_law_621 : decode bL_law 621 = .ok (.iaload, 1) := by decide +kernel
theorem dL_law_622 : decode bL_law 622 = .ok (.aload_n 0, 1) := by decide +kernel
theorem dL_law_623 : decode bL_law 623 = .ok (.iload 4, 2) := by decide +kernel
theorem dL_law_625 : decode bL_law 625 = .ok (.iconst 3, 1) := by decide +kernel
theorem dL_law_626 : decode bL_law 626 = .ok (.iadd, 1) := by decide +kernel
theorem dL_law_627 : decode bL_law 627 = .ok (.iaload, 1) := by decide +kernel
theorem dL_law_628 : decode bL_law 628 = .ok (.aload_n 3, 1) := by decide +kernel
theorem dL_law_629 : decode bL_law 629 = .ok (.invokestatic 106, 3) := by decide +kernel
theorem dL_law_632 : decode bL_law 632 = .ok (.istore 5, 2) := by decide +kernel
theorem dL_law_634 : decode bL_law 634 = .ok (.aload_n 2, 1) := by decide +kernel
theorem dL_law_635 : decode bL_law 635 = .ok (.aload_n 0, 1) := by decide +kernel
theorem dL_law_636 : decode bL_law 636 = .ok (.iload 4, 2) := by decide +kernel
theorem dL_law_638 : decode bL_law 638 = .ok (.iconst 1, 1) := by decide +kernel
theorem dL_law_639 : decode bL_law 639 = .ok (.iadd, 1) := by decide +kernel
theorem dL_law_640 : decode bL_law 640 = .ok (.iaload, 1) := by decide +kernel
theorem dL_law_641 : decode bL_law 641 = .ok (.aload_n 0, 1) := by decide +kernel
theorem dL_law_642 : decode bL_law 642 = .ok (.iload 4, 2) := by decide +kernel
theorem dL_law_644 : decode bL_law 644 = .ok (.iconst 2, 1) := by decide +kernel
theorem dL_law_645 : decode bL_law 645 = .ok (.iadd, 1) := by decide +kernel
theorem dL_law_646 : decode bL_law 646 = .ok (.iaload, 1) := by decide +kernel
theorem dL_law_647 : decode bL_law 647 = .ok (.aload_n 0, 1) := by decide +kernel
theorem dL_law_648 : decode bL_law 648 = .ok (.iload 4, 2) := by decide +kernel
theorem dL_law_650 : decode bL_law 650 = .ok (.iconst 3, 1) := by decide +kernel
theorem dL_law_651 : decode bL_law 651 = .ok (.iadd, 1) := by decide +kernel
theorem dL_law_652 : decode bL_law 652 = .ok (.iaload, 1) := by decide +kernel
theorem dL_law_653 : decode bL_law 653 = .ok (.invokevirtual 109, 3) := by decide +kernel
theorem dL_law_656 : decode bL_law 656 = .ok (.istore 6, 2) := by decide +kernel
theorem dL_law_658 : decode bL_law 658 = .ok (.aload_n 2, 1) := by decide +kernel
theorem dL_law_659 : decode bL_law 659 = .ok (.invokevirtual 84, 3) := by decide +kernel
theorem dL_law_662 : decode bL_law 662 = .ok (.iload 5, 2) := by decide +kernel
theorem dL_law_664 : decode bL_law 664 = .ok (.if_icmp .eq 5, 3) := by decide +kernel
theorem dL_law_669 : decode bL_law 669 = .ok (.iload 5, 2) := by decide +kernel
theorem dL_law_671 : decode bL_law 671 = .ok (.ifCond .ne 15, 3) := by decide +kernel
theorem dL_law_686 : decode bL_law 686 = .ok (.goto 579, 3) := by decide +kernel
theorem dL_law_689 : decode bL_law 689 = .ok (.aload_n 1, 1) := by decide +kernel
theorem dL_law_690 : decode bL_law 690 = .ok (.aload_n 0, 1) := by decide +kernel
theorem dL_law_691 : decode bL_law 691 = .ok (.iload 4, 2) := by decide +kernel
theorem dL_law_693 : decode bL_law 693 = .ok (.iconst 1, 1) := by decide +kernel
theorem dL_law_694 : decode bL_law 694 = .ok (.iadd, 1) := by decide +kernel
theorem dL_law_695 : decode bL_law 695 = .ok (.iaload, 1) := by decide +kernel
theorem dL_law_696 : decode bL_law 696 = .ok (.aload_n 0, 1) := by decide +kernel
theorem dL_law_697 : decode bL_law 697 = .ok (.iload 4, 2) := by decide +kernel
theorem dL_law_699 : decode bL_law 699 = .ok (.iconst 2, 1) := by decide +kernel
theorem dL_law_700 : decode bL_law 700 = .ok (.iadd, 1) := by decide +kernel
theorem dL_law_701 : decode bL_law 701 = .ok (.iaload, 1) := by decide +kernel
theorem dL_law_702 : decode bL_law 702 = .ok (.aload_n 3, 1) := by decide +kernel
theorem dL_law_703 : decode bL_law 703 = .ok (.invokestatic 110, 3) := by decide +kernel
theorem dL_law_706 : decode bL_law 706 = .ok (.istore 5, 2) := by decide +kernel
theorem dL_law_708 : decode bL_law 708 = .ok (.aload_n 2, 1) := by decide +kernel
theorem dL_law_709 : decode bL_law 709 = .ok (.aload_n 0, 1) := by decide +kernel
theorem dL_law_710 : decode bL_law 710 = .ok (.iload 4, 2) := by decide +kernel
theorem dL_law_712 : decode bL_law 712 = .ok (.iconst 1, 1) := by decide +kernel
theorem dL_law_713 : decode bL_law 713 = .ok (.iadd, 1) := by decide +kernel
theorem dL_law_714 : decode bL_law 714 = .ok (.iaload, 1) := by decide +kernel
theorem dL_law_715 : decode bL_law 715 = .ok (.aload_n 0, 1) := by decide +kernel
theorem dL_law_716 : decode bL_law 716 = .ok (.iload 4, 2) := by decide +kernel
theorem dL_law_718 : decode bL_law 718 = .ok (.iconst 2, 1) := by decide +kernel
theorem dL_law_719 : decode bL_law 719 = .ok (.iadd, 1) := by decide +kernel
theorem dL_law_720 : decode bL_law 720 = .ok (.iaload, 1) := by decide +kernel
theorem dL_law_721 : decode bL_law 721 = .ok (.invokevirtual 112, 3) := by decide +kernel
theorem dL_law_724 : decode bL_law 724 = .ok (.istore 6, 2) := by decide +kernel
theorem dL_law_726 : decode bL_law 726 = .ok (.aload_n 2, 1) := by decide +kernel
theorem dL_law_727 : decode bL_law 727 = .ok (.invokevirtual 84, 3) := by decide +kernel
theorem dL_law_730 : decode bL_law 730 = .ok (.iload 5, 2) := by decide +kernel
theorem dL_law_732 : decode bL_law 732 = .ok (.if_icmp .eq 5, 3) := by decide +kernel
theorem dL_law_737 : decode bL_law 737 = .ok (.iload 5, 2) := by decide +kernel
theorem dL_law_739 : decode bL_law 739 = .ok (.ifCond .ne 15, 3) := by decide +kernel
theorem dL_law_754 : decode bL_law 754 = .ok (.goto 511, 3) := by decide +kernel
theorem dL_law_757 : decode bL_law 757 = .ok (.aload_n 1, 1) := by decide +kernel
theorem dL_law_758 : decode bL_law 758 = .ok (.aload_n 0, 1) := by decide +kernel
theorem dL_law_759 : decode bL_law 759 = .ok (.iload 4, 2) := by decide +kernel
theorem dL_law_761 : decode bL_law 761 = .ok (.iconst 1, 1) := by decide +kernel
theorem dL_law_762 : decode bL_law 762 = .ok (.iadd, 1) := by decide +kernel
theorem dL_law_763 : decode bL_law 763 = .ok (.iaload, 1) := by decide +kernel
theorem dL_law_764 : decode bL_law 764 = .ok (.aload_n 0, 1) := by decide +kernel
theorem dL_law_765 : decode bL_law 765 = .ok (.iload 4, 2) := by decide +kernel
theorem dL_law_767 : decode bL_law 767 = .ok (.iconst 2, 1) := by decide +kernel
theorem dL_law_768 : decode bL_law 768 = .ok (.iadd, 1) := by decide +kernel
theorem dL_law_769 : decode bL_law 769 = .ok (.iaload, 1) := by decide +kernel
theorem dL_law_770 : decode bL_law 770 = .ok (.aload_n 3, 1) := by decide +kernel
theorem dL_law_771 : decode bL_law 771 = .ok (.invokestatic 113, 3) := by decide +kernel
theorem dL_law_774 : decode bL_law 774 = .ok (.istore 5, 2) := by decide +kernel
theorem dL_law_776 : decode bL_law 776 = .ok (.aload_n 2, 1) := by decide +kernel
theorem dL_law_777 : decode bL_law 777 = .ok (.aload_n 0, 1) := by decide +kernel
theorem dL_law_778 : decode bL_law 778 = .ok (.iload 4, 2) := by decide +kernel
theorem dL_law_780 : decode bL_law 780 = .ok (.iconst 1, 1) := by decide +kernel
theorem dL_law_781 : decode bL_law 781 = .ok (.iadd, 1) := by decide +kernel
theorem dL_law_782 : decode bL_law 782 = .ok (.iaload, 1) := by decide +kernel
theorem dL_law_783 : decode bL_law 783 = .ok (.aload_n 0, 1) := by decide +kernel
theorem dL_law_784 : decode bL_law 784 = .ok (.iload 4, 2) := by decide +kernel
theorem dL_law_786 : decode bL_law 786 = .ok (.iconst 2, 1) := by decide +kernel
theorem dL_law_787 : decode bL_law 787 = .ok (.iadd, 1) := by decide +kernel
theorem dL_law_788 : decode bL_law 788 = .ok (.iaload, 1) := by decide +kernel
theorem dL_law_789 : decode bL_law 789 = .ok (.invokevirtual 115, 3) := by decide +kernel
theorem dL_law_792 : decode bL_law 792 = .ok (.istore 6, 2) := by decide +kernel
theorem dL_law_794 : decode bL_law 794 = .ok (.aload_n 2, 1) := by decide +kernel
theorem dL_law_795 : decode bL_law 795 = .ok (.invokevirtual 84, 3) := by decide +kernel
theorem dL_law_798 : decode bL_law 798 = .ok (.iload 5, 2) := by decide +kernel
theorem dL_law_800 : decode bL_law 800 = .ok (.if_icmp .eq 5, 3) := by decide +kernel
theorem dL_law_805 : decode bL_law 805 = .ok (.iload 5, 2) := by decide +kernel
theorem dL_law_807 : decode bL_law 807 = .ok (.ifCond .ne 15, 3) := by decide +kernel
theorem dL_law_822 : decode bL_law 822 = .ok (.goto 443, 3) := by decide +kernel
theorem dL_law_825 : decode bL_law 825 = .ok (.aload_n 1, 1) := by decide +kernel
theorem dL_law_826 : decode bL_law 826 = .ok (.aload_n 0, 1) := by decide +kernel
theorem dL_law_827 : decode bL_law 827 = .ok (.iload 4, 2) := by decide +kernel
theorem dL_law_829 : decode bL_law 829 = .ok (.iconst 1, 1) := by decide +kernel
theorem dL_law_830 : decode bL_law 830 = .ok (.iadd, 1) := by decide +kernel
theorem dL_law_831 : decode bL_law 831 = .ok (.iaload, 1) := by decide +kernel
theorem dL_law_832 : decode bL_law 832 = .ok (.aload_n 0, 1) := by decide +kernel
end
section
theorem dL_law_833 : decode bL_law 833 = .ok (.iload 4, 2) := by decide +kernel
theorem dL_law_835 : decode bL_law 835 = .ok (.iconst 2, 1) := by decide +kernel
theorem dL_law_836 : decode bL_law 836 = .ok (.iadd, 1) := by decide +kernel
theorem dL_law_837 : decode bL_law 837 = .ok (.iaload, 1) := by decide +kernel
theorem dL_law_838 : decode bL_law 838 = .ok (.aload_n 3, 1) := by decide +kernel
theorem dL_law_839 : decode bL_law 839 = .ok (.invokestatic 116, 3) := by decide +kernel
theorem dL_law_842 : decode bL_law 842 = .ok (.istore 5, 2) := by decide +kernel
theorem dL_law_844 : decode bL_law 844 = .ok (.aload_n 2, 1) := by decide +kernel
theorem dL_law_845 : decode bL_law 845 = .ok (.aload_n 0, 1) := by decide +kernel
theorem dL_law_846 : decode bL_law 846 = .ok (.iload 4, 2) := by decide +kernel
theorem dL_law_848 : decode bL_law 848 = .ok (.iconst 1, 1) := by decide +kernel
theorem dL_law_849 : decode bL_law 849 = .ok (.iadd, 1) := by decide +kernel
theorem dL_law_850 : decode bL_law 850 = .ok (.iaload, 1) := by decide +kernel
theorem dL_law_851 : decode bL_law 851 = .ok (.aload_n 0, 1) := by decide +kernel
theorem dL_law_852 : decode bL_law 852 = .ok (.iload 4, 2) := by decide +kernel
theorem dL_law_854 : decode bL_law 854 = .ok (.iconst 2, 1) := by decide +kernel
theorem dL_law_855 : decode bL_law 855 = .ok (.iadd, 1) := by decide +kernel
theorem dL_law_856 : decode bL_law 856 = .ok (.iaload, 1) := by decide +kernel
theorem dL_law_857 : decode bL_law 857 = .ok (.invokevirtual 118, 3) := by decide +kernel
theorem dL_law_860 : decode bL_law 860 = .ok (.istore 6, 2) := by decide +kernel
theorem dL_law_862 : decode bL_law 862 = .ok (.aload_n 2, 1) := by decide +kernel
theorem dL_law_863 : decode bL_law 863 = .ok (.invokevirtual 84, 3) := by decide +kernel
theorem dL_law_866 : decode bL_law 866 = .ok (.iload 5, 2) := by decide +kernel
theorem dL_law_868 : decode bL_law 868 = .ok (.if_icmp .eq 5, 3) := by decide +kernel
theorem dL_law_873 : decode bL_law 873 = .ok (.iload 5, 2) := by decide +kernel
theorem dL_law_875 : decode bL_law 875 = .ok (.ifCond .ne 15, 3) := by decide +kernel
theorem dL_law_890 : decode bL_law 890 = .ok (.goto 375, 3) := by decide +kernel
theorem dL_law_893 : decode bL_law 893 = .ok (.aload_n 1, 1) := by decide +kernel
theorem dL_law_894 : decode bL_law 894 = .ok (.aload_n 0, 1) := by decide +kernel
theorem dL_law_895 : decode bL_law 895 = .ok (.iload 4, 2) := by decide +kernel
theorem dL_law_897 : decode bL_law 897 = .ok (.iconst 1, 1) := by decide +kernel
theorem dL_law_898 : decode bL_law 898 = .ok (.iadd, 1) := by decide +kernel
theorem dL_law_899 : decode bL_law 899 = .ok (.iaload, 1) := by decide +kernel
theorem dL_law_900 : decode bL_law 900 = .ok (.aload_n 0, 1) := by decide +kernel
theorem dL_law_901 : decode bL_law 901 = .ok (.iload 4, 2) := by decide +kernel
theorem dL_law_903 : decode bL_law 903 = .ok (.iconst 2, 1) := by decide +kernel
theorem dL_law_904 : decode bL_law 904 = .ok (.iadd, 1) := by decide +kernel
theorem dL_law_905 : decode bL_law 905 = .ok (.iaload, 1) := by decide +kernel
theorem dL_law_906 : decode bL_law 906 = .ok (.aload_n 0, 1) := by decide +kernel
theorem dL_law_907 : decode bL_law 907 = .ok (.iload 4, 2) := by decide +kernel
theorem dL_law_909 : decode bL_law 909 = .ok (.iconst 3, 1) := by decide +kernel
theorem dL_law_910 : decode bL_law 910 = .ok (.iadd, 1) := by decide +kernel
theorem dL_law_911 : decode bL_law 911 = .ok (.iaload, 1) := by decide +kernel
theorem dL_law_912 : decode bL_law 912 = .ok (.aload_n 3, 1) := by decide +kernel
theorem dL_law_913 : decode bL_law 913 = .ok (.invokestatic 119, 3) := by decide +kernel
theorem dL_law_916 : decode bL_law 916 = .ok (.istore 5, 2) := by decide +kernel
theorem dL_law_918 : decode bL_law 918 = .ok (.aload_n 2, 1) := by decide +kernel
theorem dL_law_919 : decode bL_law 919 = .ok (.aload_n 0, 1) := by decide +kernel
theorem dL_law_920 : decode bL_law 920 = .ok (.iload 4, 2) := by decide +kernel
theorem dL_law_922 : decode bL_law 922 = .ok (.iconst 1, 1) := by decide +kernel
theorem dL_law_923 : decode bL_law 923 = .ok (.iadd, 1) := by decide +kernel
theorem dL_law_924 : decode bL_law 924 = .ok (.iaload, 1) := by decide +kernel
theorem dL_law_925 : decode bL_law 925 = .ok (.aload_n 0, 1) := by decide +kernel
theorem dL_law_926 : decode bL_law 926 = .ok (.iload 4, 2) := by decide +kernel
theorem dL_law_928 : decode bL_law 928 = .ok (.iconst 2, 1) := by decide +kernel
theorem dL_law_929 : decode bL_law 929 = .ok (.iadd, 1) := by decide +kernel
theorem dL_law_930 : decode bL_law 930 = .ok (.iaload, 1) := by decide +kernel
theorem dL_law_931 : decode bL_law 931 = .ok (.aload_n 0, 1) := by decide +kernel
theorem dL_law_932 : decode bL_law 932 = .ok (.iload 4, 2) := by decide +kernel
theorem dL_law_934 : decode bL_law 934 = .ok (.iconst 3, 1) := by decide +kernel
theorem dL_law_935 : decode bL_law 935 = .ok (.iadd, 1) := by decide +kernel
theorem dL_law_936 : decode bL_law 936 = .ok (.iaload, 1) := by decide +kernel
theorem dL_law_937 : decode bL_law 937 = .ok (.invokevirtual 121, 3) := by decide +kernel
theorem dL_law_940 : decode bL_law 940 = .ok (.istore 6, 2) := by decide +kernel
theorem dL_law_942 : decode bL_law 942 = .ok (.aload_n 2, 1) := by decide +kernel
theorem dL_law_943 : decode bL_law 943 = .ok (.invokevirtual 84, 3) := by decide +kernel
theorem dL_law_946 : decode bL_law 946 = .ok (.iload 5, 2) := by decide +kernel
theorem dL_law_948 : decode bL_law 948 = .ok (.if_icmp .eq 5, 3) := by decide +kernel
theorem dL_law_953 : decode bL_law 953 = .ok (.iload 5, 2) := by decide +kernel
theorem dL_law_955 : decode bL_law 955 = .ok (.ifCond .ne 15, 3) := by decide +kernel
theorem dL_law_970 : decode bL_law 970 = .ok (.goto 295, 3) := by decide +kernel
theorem dL_law_973 : decode bL_law 973 = .ok (.aload_n 1, 1) := by decide +kernel
theorem dL_law_974 : decode bL_law 974 = .ok (.aload_n 0, 1) := by decide +kernel
theorem dL_law_975 : decode bL_law 975 = .ok (.iload 4, 2) := by decide +kernel
theorem dL_law_977 : decode bL_law 977 = .ok (.iconst 1, 1) := by decide +kernel
theorem dL_law_978 : decode bL_law 978 = .ok (.iadd, 1) := by decide +kernel
theorem dL_law_979 : decode bL_law 979 = .ok (.iaload, 1) := by decide +kernel
theorem dL_law_980 : decode bL_law 980 = .ok (.aload_n 0, 1) := by decide +kernel
theorem dL_law_981 : decode bL_law 981 = .ok (.iload 4, 2) := by decide +kernel
theorem dL_law_983 : decode bL_law 983 = .ok (.iconst 2, 1) := by decide +kernel
theorem dL_law_984 : decode bL_law 984 = .ok (.iadd, 1) := by decide +kernel
theorem dL_law_985 : decode bL_law 985 = .ok (.iaload, 1) := by decide +kernel
theorem dL_law_986 : decode bL_law 986 = .ok (.aload_n 3, 1) := by decide +kernel
theorem dL_law_987 : decode bL_law 987 = .ok (.invokestatic 122, 3) := by decide +kernel
theorem dL_law_990 : decode bL_law 990 = .ok (.istore 5, 2) := by decide +kernel
theorem dL_law_992 : decode bL_law 992 = .ok (.aload_n 2, 1) := by decide +kernel
theorem dL_law_993 : decode bL_law 993 = .ok (.aload_n 0, 1) := by decide +kernel
theorem dL_law_994 : decode bL_law 994 = .ok (.iload 4, 2) := by decide +kernel
theorem dL_law_996 : decode bL_law 996 = .ok (.iconst 1, 1) := by decide +kernel
theorem dL_law_997 : decode bL_law 997 = .ok (.iadd, 1) := by decide +kernel
theorem dL_law_998 : decode bL_law 998 = .ok (.iaload, 1) := by decide +kernel
theorem dL_law_999 : decode bL_law 999 = .ok (.aload_n 0, 1) := by decide +kernel
theorem dL_law_1000 : decode bL_law 1000 = .ok (.iload 4, 2) := by decide +kernel
theorem dL_law_1002 : decode bL_law 1002 = .ok (.iconst 2, 1) := by decide +kernel
theorem dL_law_1003 : decode bL_law 1003 = .ok (.iadd, 1) := by decide +kernel
theorem dL_law_1004 : decode bL_law 1004 = .ok (.iaload, 1) := by decide +kernel
theorem dL_law_1005 : decode bL_law 1005 = .ok (.invokevirtual 124, 3) := by decide +kernel
theorem dL_law_1008 : decode bL_law 1008 = .ok (.istore 6, 2) := by decide +kernel
theorem dL_law_1010 : decode bL_law 1010 = .ok (.aload_n 2, 1) := by decide +kernel
theorem dL_law_1011 : decode bL_law 1011 = .ok (.invokevirtual 84, 3) := by decide +kernel
theorem dL_law_1014 : decode bL_law 1014 = .ok (.iload 5, 2) := by decide +kernel
theorem dL_law_1016 : decode bL_law 1016 = .ok (.if_icmp .eq 5, 3) := by decide +kernel
theorem dL_law_1021 : decode bL_law 1021 = .ok (.iload 5, 2) := by decide +kernel
theorem dL_law_1023 : decode bL_law 1023 = .ok (.ifCond .ne 22, 3) := by decide +kernel
theorem dL_law_1045 : decode bL_law 1045 = .ok (.goto 220, 3) := by decide +kernel
theorem dL_law_1048 : decode bL_law 1048 = .ok (.aload_n 1, 1) := by decide +kernel
theorem dL_law_1049 : decode bL_law 1049 = .ok (.aload_n 0, 1) := by decide +kernel
theorem dL_law_1050 : decode bL_law 1050 = .ok (.iload 4, 2) := by decide +kernel
theorem dL_law_1052 : decode bL_law 1052 = .ok (.iconst 1, 1) := by decide +kernel
theorem dL_law_1053 : decode bL_law 1053 = .ok (.iadd, 1) := by decide +kernel
theorem dL_law_1054 : decode bL_law 1054 = .ok (.iaload, 1) := by decide +kernel
theorem dL_law_1055 : decode bL_law 1055 = .ok (.aload_n 3, 1) := by decide +kernel
theorem dL_law_1056 : decode bL_law 1056 = .ok (.invokestatic 125, 3) := by decide +kernel
theorem dL_law_1059 : decode bL_law 1059 = .ok (.istore 5, 2) := by decide +kernel
theorem dL_law_1061 : decode bL_law 1061 = .ok (.aload_n 2, 1) := by decide +kernel
theorem dL_law_1062 : decode bL_law 1062 = .ok (.aload_n 0, 1) := by decide +kernel
theorem dL_law_1063 : decode bL_law 1063 = .ok (.iload 4, 2) := by decide +kernel
theorem dL_law_1065 : decode bL_law 1065 = .ok (.iconst 1, 1) := by decide +kernel
theorem dL_law_1066 : decode bL_law 1066 = .ok (.iadd, 1) := by decide +kernel
theorem dL_law_1067 : decode bL_law 1067 = .ok (.iaload, 1) := by decide +kernel
end
section
theorem dL_law_1068 : decode bL_law 1068 = .ok (.invokevirtual 128, 3) := by decide +kernel
theorem dL_law_1071 : decode bL_law 1071 = .ok (.istore 6, 2) := by decide +kernel
theorem dL_law_1073 : decode bL_law 1073 = .ok (.aload_n 2, 1) := by decide +kernel
theorem dL_law_1074 : decode bL_law 1074 = .ok (.invokevirtual 84, 3) := by decide +kernel
theorem dL_law_1077 : decode bL_law 1077 = .ok (.iload 5, 2) := by decide +kernel
theorem dL_law_1079 : decode bL_law 1079 = .ok (.if_icmp .eq 5, 3) := by decide +kernel
theorem dL_law_1084 : decode bL_law 1084 = .ok (.iload 5, 2) := by decide +kernel
theorem dL_law_1086 : decode bL_law 1086 = .ok (.ifCond .ne 15, 3) := by decide +kernel
theorem dL_law_1101 : decode bL_law 1101 = .ok (.goto 164, 3) := by decide +kernel
theorem dL_law_1104 : decode bL_law 1104 = .ok (.aload_n 1, 1) := by decide +kernel
theorem dL_law_1105 : decode bL_law 1105 = .ok (.aload_n 0, 1) := by decide +kernel
theorem dL_law_1106 : decode bL_law 1106 = .ok (.iload 4, 2) := by decide +kernel
theorem dL_law_1108 : decode bL_law 1108 = .ok (.iconst 1, 1) := by decide +kernel
theorem dL_law_1109 : decode bL_law 1109 = .ok (.iadd, 1) := by decide +kernel
theorem dL_law_1110 : decode bL_law 1110 = .ok (.iaload, 1) := by decide +kernel
theorem dL_law_1111 : decode bL_law 1111 = .ok (.aload_n 0, 1) := by decide +kernel
theorem dL_law_1112 : decode bL_law 1112 = .ok (.iload 4, 2) := by decide +kernel
theorem dL_law_1114 : decode bL_law 1114 = .ok (.iconst 2, 1) := by decide +kernel
theorem dL_law_1115 : decode bL_law 1115 = .ok (.iadd, 1) := by decide +kernel
theorem dL_law_1116 : decode bL_law 1116 = .ok (.iaload, 1) := by decide +kernel
theorem dL_law_1117 : decode bL_law 1117 = .ok (.aload_n 0, 1) := by decide +kernel
theorem dL_law_1118 : decode bL_law 1118 = .ok (.iload 4, 2) := by decide +kernel
theorem dL_law_1120 : decode bL_law 1120 = .ok (.iconst 3, 1) := by decide +kernel
theorem dL_law_1121 : decode bL_law 1121 = .ok (.iadd, 1) := by decide +kernel
theorem dL_law_1122 : decode bL_law 1122 = .ok (.iaload, 1) := by decide +kernel
theorem dL_law_1123 : decode bL_law 1123 = .ok (.aload_n 3, 1) := by decide +kernel
theorem dL_law_1124 : decode bL_law 1124 = .ok (.invokestatic 129, 3) := by decide +kernel
theorem dL_law_1127 : decode bL_law 1127 = .ok (.istore 5, 2) := by decide +kernel
theorem dL_law_1129 : decode bL_law 1129 = .ok (.aload_n 2, 1) := by decide +kernel
theorem dL_law_1130 : decode bL_law 1130 = .ok (.aload_n 0, 1) := by decide +kernel
theorem dL_law_1131 : decode bL_law 1131 = .ok (.iload 4, 2) := by decide +kernel
theorem dL_law_1133 : decode bL_law 1133 = .ok (.iconst 1, 1) := by decide +kernel
theorem dL_law_1134 : decode bL_law 1134 = .ok (.iadd, 1) := by decide +kernel
theorem dL_law_1135 : decode bL_law 1135 = .ok (.iaload, 1) := by decide +kernel
theorem dL_law_1136 : decode bL_law 1136 = .ok (.aload_n 0, 1) := by decide +kernel
theorem dL_law_1137 : decode bL_law 1137 = .ok (.iload 4, 2) := by decide +kernel
theorem dL_law_1139 : decode bL_law 1139 = .ok (.iconst 2, 1) := by decide +kernel
theorem dL_law_1140 : decode bL_law 1140 = .ok (.iadd, 1) := by decide +kernel
theorem dL_law_1141 : decode bL_law 1141 = .ok (.iaload, 1) := by decide +kernel
theorem dL_law_1142 : decode bL_law 1142 = .ok (.aload_n 0, 1) := by decide +kernel
theorem dL_law_1143 : decode bL_law 1143 = .ok (.iload 4, 2) := by decide +kernel
theorem dL_law_1145 : decode bL_law 1145 = .ok (.iconst 3, 1) := by decide +kernel
theorem dL_law_1146 : decode bL_law 1146 = .ok (.iadd, 1) := by decide +kernel
theorem dL_law_1147 : decode bL_law 1147 = .ok (.iaload, 1) := by decide +kernel
theorem dL_law_1148 : decode bL_law 1148 = .ok (.invokevirtual 131, 3) := by decide +kernel
theorem dL_law_1151 : decode bL_law 1151 = .ok (.istore 6, 2) := by decide +kernel
theorem dL_law_1153 : decode bL_law 1153 = .ok (.aload_n 2, 1) := by decide +kernel
theorem dL_law_1154 : decode bL_law 1154 = .ok (.invokevirtual 84, 3) := by decide +kernel
theorem dL_law_1157 : decode bL_law 1157 = .ok (.iload 5, 2) := by decide +kernel
theorem dL_law_1159 : decode bL_law 1159 = .ok (.if_icmp .eq 5, 3) := by decide +kernel
theorem dL_law_1164 : decode bL_law 1164 = .ok (.iload 5, 2) := by decide +kernel
theorem dL_law_1166 : decode bL_law 1166 = .ok (.ifCond .ne 15, 3) := by decide +kernel
theorem dL_law_1181 : decode bL_law 1181 = .ok (.goto 84, 3) := by decide +kernel
theorem dL_law_1184 : decode bL_law 1184 = .ok (.aload_n 1, 1) := by decide +kernel
theorem dL_law_1185 : decode bL_law 1185 = .ok (.aload_n 0, 1) := by decide +kernel
theorem dL_law_1186 : decode bL_law 1186 = .ok (.iload 4, 2) := by decide +kernel
theorem dL_law_1188 : decode bL_law 1188 = .ok (.iconst 1, 1) := by decide +kernel
theorem dL_law_1189 : decode bL_law 1189 = .ok (.iadd, 1) := by decide +kernel
theorem dL_law_1190 : decode bL_law 1190 = .ok (.iaload, 1) := by decide +kernel
theorem dL_law_1191 : decode bL_law 1191 = .ok (.aload_n 0, 1) := by decide +kernel
theorem dL_law_1192 : decode bL_law 1192 = .ok (.iload 4, 2) := by decide +kernel
theorem dL_law_1194 : decode bL_law 1194 = .ok (.iconst 2, 1) := by decide +kernel
theorem dL_law_1195 : decode bL_law 1195 = .ok (.iadd, 1) := by decide +kernel
theorem dL_law_1196 : decode bL_law 1196 = .ok (.iaload, 1) := by decide +kernel
theorem dL_law_1197 : decode bL_law 1197 = .ok (.aload_n 3, 1) := by decide +kernel
theorem dL_law_1198 : decode bL_law 1198 = .ok (.invokestatic 132, 3) := by decide +kernel
theorem dL_law_1201 : decode bL_law 1201 = .ok (.istore 5, 2) := by decide +kernel
theorem dL_law_1203 : decode bL_law 1203 = .ok (.aload_n 2, 1) := by decide +kernel
theorem dL_law_1204 : decode bL_law 1204 = .ok (.aload_n 0, 1) := by decide +kernel
theorem dL_law_1205 : decode bL_law 1205 = .ok (.iload 4, 2) := by decide +kernel
theorem dL_law_1207 : decode bL_law 1207 = .ok (.iconst 1, 1) := by decide +kernel
theorem dL_law_1208 : decode bL_law 1208 = .ok (.iadd, 1) := by decide +kernel
theorem dL_law_1209 : decode bL_law 1209 = .ok (.iaload, 1) := by decide +kernel
theorem dL_law_1210 : decode bL_law 1210 = .ok (.aload_n 0, 1) := by decide +kernel
theorem dL_law_1211 : decode bL_law 1211 = .ok (.iload 4, 2) := by decide +kernel
theorem dL_law_1213 : decode bL_law 1213 = .ok (.iconst 2, 1) := by decide +kernel
theorem dL_law_1214 : decode bL_law 1214 = .ok (.iadd, 1) := by decide +kernel
theorem dL_law_1215 : decode bL_law 1215 = .ok (.iaload, 1) := by decide +kernel
theorem dL_law_1216 : decode bL_law 1216 = .ok (.invokevirtual 134, 3) := by decide +kernel
theorem dL_law_1219 : decode bL_law 1219 = .ok (.istore 6, 2) := by decide +kernel
theorem dL_law_1221 : decode bL_law 1221 = .ok (.aload_n 2, 1) := by decide +kernel
theorem dL_law_1222 : decode bL_law 1222 = .ok (.invokevirtual 84, 3) := by decide +kernel
theorem dL_law_1225 : decode bL_law 1225 = .ok (.iload 5, 2) := by decide +kernel
theorem dL_law_1227 : decode bL_law 1227 = .ok (.if_icmp .eq 5, 3) := by decide +kernel
theorem dL_law_1232 : decode bL_law 1232 = .ok (.iload 5, 2) := by decide +kernel
theorem dL_law_1234 : decode bL_law 1234 = .ok (.ifCond .ne 15, 3) := by decide +kernel
theorem dL_law_1249 : decode bL_law 1249 = .ok (.goto 16, 3) := by decide +kernel
theorem dL_law_1252 : decode bL_law 1252 = .ok (.aload_n 1, 1) := by decide +kernel
theorem dL_law_1253 : decode bL_law 1253 = .ok (.invokevirtual 135, 3) := by decide +kernel
theorem dL_law_1256 : decode bL_law 1256 = .ok (.aload_n 2, 1) := by decide +kernel
theorem dL_law_1257 : decode bL_law 1257 = .ok (.invokevirtual 138, 3) := by decide +kernel
theorem dL_law_1260 : decode bL_law 1260 = .ok (.if_icmp .eq 5, 3) := by decide +kernel
theorem dL_law_1265 : decode bL_law 1265 = .ok (.iinc 4 7, 3) := by decide +kernel
theorem dL_law_1268 : decode bL_law 1268 = .ok (.goto (-1235), 3) := by decide +kernel
theorem dL_law_1271 : decode bL_law 1271 = .ok (.iconst 1, 1) := by decide +kernel
theorem dL_law_1272 : decode bL_law 1272 = .ok (.ireturn, 1) := by decide +kernel
theorem dL_over_0 : decode bL_over 0 = .ok (.aload_n 3, 1) := by decide +kernel
theorem dL_over_1 : decode bL_over 1 = .ok (.iconst 0, 1) := by decide +kernel
theorem dL_over_2 : decode bL_over 2 = .ok (.aload_n 0, 1) := by decide +kernel
theorem dL_over_3 : decode bL_over 3 = .ok (.iload_n 1, 1) := by decide +kernel
theorem dL_over_4 : decode bL_over 4 = .ok (.iload_n 2, 1) := by decide +kernel
theorem dL_over_5 : decode bL_over 5 = .ok (.invokevirtual 32, 3) := by decide +kernel
theorem dL_over_13 : decode bL_over 13 = .ok (.astore 4, 2) := by decide +kernel
theorem dL_over_15 : decode bL_over 15 = .ok (.iconst 1, 1) := by decide +kernel
theorem dL_over_16 : decode bL_over 16 = .ok (.ireturn, 1) := by decide +kernel
theorem dL_part_0 : decode bL_part 0 = .ok (.aload_n 3, 1) := by decide +kernel
theorem dL_part_1 : decode bL_part 1 = .ok (.iconst 0, 1) := by decide +kernel
theorem dL_part_2 : decode bL_part 2 = .ok (.aload_n 0, 1) := by decide +kernel
theorem dL_part_3 : decode bL_part 3 = .ok (.iload_n 1, 1) := by decide +kernel
theorem dL_part_4 : decode bL_part 4 = .ok (.iload_n 2, 1) := by decide +kernel
theorem dL_part_5 : decode bL_part 5 = .ok (.invokevirtual 48, 3) := by decide +kernel
theorem dL_part_13 : decode bL_part 13 = .ok (.astore 4, 2) := by decide +kernel
theorem dL_part_15 : decode bL_part 15 = .ok (.iconst 1, 1) := by decide +kernel
theorem dL_part_16 : decode bL_part 16 = .ok (.ireturn, 1) := by decide +kernel
theorem dL_poly_0 : decode bL_poly 0 = .ok (.aload_n 1, 1) := by decide +kernel
theorem dL_poly_1 : decode bL_poly 1 = .ok (.iconst 0, 1) := by decide +kernel
theorem dL_poly_2 : decode bL_poly 2 = .ok (.aload_n 0, 1) := by decide +kernel
theorem dL_poly_3 : decode bL_poly 3 = .ok (.invokevirtual 7, 3) := by decide +kernel
theorem dL_poly_6 : decode bL_poly 6 = .ok (.i2l, 1) := by decide +kernel
theorem dL_poly_7 : decode bL_poly 7 = .ok (.lastore, 1) := by decide +kernel
end
section
theorem dL_poly_8 : decode bL_poly 8 = .ok (.goto 6, 3) := by decide +kernel
theorem dL_poly_14 : decode bL_poly 14 = .ok (.iconst 0, 1) := by decide +kernel
theorem dL_poly_15 : decode bL_poly 15 = .ok (.ireturn, 1) := by decide +kernel
theorem dL_resultant_0 : decode bL_resultant 0 = .ok (.aload 4, 2) := by decide +kernel
theorem dL_resultant_2 : decode bL_resultant 2 = .ok (.iconst 0, 1) := by decide +kernel
theorem dL_resultant_3 : decode bL_resultant 3 = .ok (.aload_n 0, 1) := by decide +kernel
theorem dL_resultant_4 : decode bL_resultant 4 = .ok (.iload_n 1, 1) := by decide +kernel
theorem dL_resultant_5 : decode bL_resultant 5 = .ok (.iload_n 2, 1) := by decide +kernel
theorem dL_resultant_6 : decode bL_resultant 6 = .ok (.iload_n 3, 1) := by decide +kernel
theorem dL_resultant_7 : decode bL_resultant 7 = .ok (.invokevirtual 38, 3) := by decide +kernel
theorem dL_resultant_15 : decode bL_resultant 15 = .ok (.astore 5, 2) := by decide +kernel
theorem dL_resultant_17 : decode bL_resultant 17 = .ok (.iconst 1, 1) := by decide +kernel
theorem dL_resultant_18 : decode bL_resultant 18 = .ok (.ireturn, 1) := by decide +kernel
theorem dL_slope_0 : decode bL_slope 0 = .ok (.aload_n 3, 1) := by decide +kernel
theorem dL_slope_1 : decode bL_slope 1 = .ok (.iconst 0, 1) := by decide +kernel
theorem dL_slope_2 : decode bL_slope 2 = .ok (.aload_n 0, 1) := by decide +kernel
theorem dL_slope_3 : decode bL_slope 3 = .ok (.iload_n 1, 1) := by decide +kernel
theorem dL_slope_4 : decode bL_slope 4 = .ok (.iload_n 2, 1) := by decide +kernel
theorem dL_slope_5 : decode bL_slope 5 = .ok (.invokevirtual 42, 3) := by decide +kernel
theorem dL_slope_13 : decode bL_slope 13 = .ok (.astore 4, 2) := by decide +kernel
theorem dL_slope_15 : decode bL_slope 15 = .ok (.iconst 1, 1) := by decide +kernel
theorem dL_slope_16 : decode bL_slope 16 = .ok (.ireturn, 1) := by decide +kernel
theorem dL_term_0 : decode bL_term 0 = .ok (.aload 7, 2) := by decide +kernel
theorem dL_term_2 : decode bL_term 2 = .ok (.iconst 0, 1) := by decide +kernel
theorem dL_term_3 : decode bL_term 3 = .ok (.aload_n 0, 1) := by decide +kernel
theorem dL_term_4 : decode bL_term 4 = .ok (.iload_n 1, 1) := by decide +kernel
theorem dL_term_5 : decode bL_term 5 = .ok (.lload_n 2, 1) := by decide +kernel
theorem dL_term_6 : decode bL_term 6 = .ok (.lload 4, 2) := by decide +kernel
theorem dL_term_8 : decode bL_term 8 = .ok (.iload 6, 2) := by decide +kernel
theorem dL_term_10 : decode bL_term 10 = .ok (.invokevirtual 15, 3) := by decide +kernel
theorem dL_term_25 : decode bL_term 25 = .ok (.astore 8, 2) := by decide +kernel
theorem dL_term_27 : decode bL_term 27 = .ok (.iconst 1, 1) := by decide +kernel
theorem dL_term_28 : decode bL_term 28 = .ok (.ireturn, 1) := by decide +kernel
theorem dL_terms_0 : decode bL_terms 0 = .ok (.aload_n 2, 1) := by decide +kernel
theorem dL_terms_1 : decode bL_terms 1 = .ok (.iconst 0, 1) := by decide +kernel
theorem dL_terms_2 : decode bL_terms 2 = .ok (.aload_n 0, 1) := by decide +kernel
theorem dL_terms_3 : decode bL_terms 3 = .ok (.iload_n 1, 1) := by decide +kernel
theorem dL_terms_4 : decode bL_terms 4 = .ok (.invokevirtual 58, 3) := by decide +kernel
theorem dL_terms_12 : decode bL_terms 12 = .ok (.astore_n 3, 1) := by decide +kernel
theorem dL_terms_13 : decode bL_terms 13 = .ok (.iconst 1, 1) := by decide +kernel
theorem dL_terms_14 : decode bL_terms 14 = .ok (.ireturn, 1) := by decide +kernel
theorem dL_times_0 : decode bL_times 0 = .ok (.aload_n 3, 1) := by decide +kernel
theorem dL_times_1 : decode bL_times 1 = .ok (.iconst 0, 1) := by decide +kernel
theorem dL_times_2 : decode bL_times 2 = .ok (.aload_n 0, 1) := by decide +kernel
theorem dL_times_3 : decode bL_times 3 = .ok (.iload_n 1, 1) := by decide +kernel
theorem dL_times_4 : decode bL_times 4 = .ok (.iload_n 2, 1) := by decide +kernel
theorem dL_times_5 : decode bL_times 5 = .ok (.invokevirtual 29, 3) := by decide +kernel
theorem dL_times_13 : decode bL_times 13 = .ok (.astore 4, 2) := by decide +kernel
theorem dL_times_15 : decode bL_times 15 = .ok (.iconst 1, 1) := by decide +kernel
theorem dL_times_16 : decode bL_times 16 = .ok (.ireturn, 1) := by decide +kernel
theorem dM_add_0 : decode bM_add 0 = .ok (.aload_n 0, 1) := by decide +kernel
theorem dM_add_1 : decode bM_add 1 = .ok (.aload_n 0, 1) := by decide +kernel
theorem dM_add_2 : decode bM_add 2 = .ok (.iload_n 1, 1) := by decide +kernel
theorem dM_add_3 : decode bM_add 3 = .ok (.iload_n 2, 1) := by decide +kernel
theorem dM_add_4 : decode bM_add 4 = .ok (.invokevirtual 244, 3) := by decide +kernel
theorem dM_add_7 : decode bM_add 7 = .ok (.aload_n 0, 1) := by decide +kernel
theorem dM_add_8 : decode bM_add 8 = .ok (.invokevirtual 229, 3) := by decide +kernel
theorem dM_add_11 : decode bM_add 11 = .ok (.iconst 0, 1) := by decide +kernel
theorem dM_add_12 : decode bM_add 12 = .ok (.invokevirtual 233, 3) := by decide +kernel
theorem dM_add_15 : decode bM_add 15 = .ok (.ifCond .eq 5, 3) := by decide +kernel
theorem dM_add_18 : decode bM_add 18 = .ok (.iconst 0, 1) := by decide +kernel
theorem dM_add_19 : decode bM_add 19 = .ok (.ireturn, 1) := by decide +kernel
theorem dM_areNot_0 : decode bM_areNot 0 = .ok (.aload_n 0, 1) := by decide +kernel
theorem dM_areNot_1 : decode bM_areNot 1 = .ok (.iload_n 1, 1) := by decide +kernel
theorem dM_areNot_2 : decode bM_areNot 2 = .ok (.invokevirtual 226, 3) := by decide +kernel
theorem dM_areNot_5 : decode bM_areNot 5 = .ok (.ifCond .eq 11, 3) := by decide +kernel
theorem dM_areNot_16 : decode bM_areNot 16 = .ok (.iconst 1, 1) := by decide +kernel
theorem dM_areNot_17 : decode bM_areNot 17 = .ok (.goto 4, 3) := by decide +kernel
theorem dM_areNot_21 : decode bM_areNot 21 = .ok (.ireturn, 1) := by decide +kernel
theorem dM_at_0 : decode bM_at 0 = .ok (.aload_n 0, 1) := by decide +kernel
theorem dM_at_1 : decode bM_at 1 = .ok (.iload_n 1, 1) := by decide +kernel
theorem dM_at_2 : decode bM_at 2 = .ok (.invokevirtual 226, 3) := by decide +kernel
theorem dM_at_5 : decode bM_at 5 = .ok (.ifCond .ne 7, 3) := by decide +kernel
theorem dM_at_8 : decode bM_at 8 = .ok (.iconst 1, 1) := by decide +kernel
theorem dM_at_9 : decode bM_at 9 = .ok (.goto 4, 3) := by decide +kernel
theorem dM_at_13 : decode bM_at 13 = .ok (.istore 4, 2) := by decide +kernel
theorem dM_at_15 : decode bM_at 15 = .ok (.aload_n 0, 1) := by decide +kernel
theorem dM_at_16 : decode bM_at 16 = .ok (.iload 4, 2) := by decide +kernel
theorem dM_at_18 : decode bM_at 18 = .ok (.iload 4, 2) := by decide +kernel
theorem dM_at_20 : decode bM_at 20 = .ok (.ifCond .ne 29, 3) := by decide +kernel
theorem dM_at_49 : decode bM_at 49 = .ok (.iconst 0, 1) := by decide +kernel
theorem dM_at_50 : decode bM_at 50 = .ok (.iconst 0, 1) := by decide +kernel
theorem dM_at_51 : decode bM_at 51 = .ok (.invokevirtual 233, 3) := by decide +kernel
theorem dM_at_54 : decode bM_at 54 = .ok (.ifCond .eq 5, 3) := by decide +kernel
theorem dM_at_57 : decode bM_at 57 = .ok (.iconst 0, 1) := by decide +kernel
theorem dM_at_58 : decode bM_at 58 = .ok (.ireturn, 1) := by decide +kernel
theorem dM_clear_0 : decode bM_clear 0 = .ok (.iconst 0, 1) := by decide +kernel
theorem dM_clear_1 : decode bM_clear 1 = .ok (.istore_n 2, 1) := by decide +kernel
theorem dM_clear_2 : decode bM_clear 2 = .ok (.iload_n 2, 1) := by decide +kernel
theorem dM_clear_3 : decode bM_clear 3 = .ok (.sipush 4096, 3) := by decide +kernel
theorem dM_clear_6 : decode bM_clear 6 = .ok (.if_icmp .ge 22, 3) := by decide +kernel
theorem dM_clear_9 : decode bM_clear 9 = .ok (.aload_n 0, 1) := by decide +kernel
theorem dM_clear_10 : decode bM_clear 10 = .ok (.getfield 8, 3) := by decide +kernel
theorem dM_clear_13 : decode bM_clear 13 = .ok (.sipush 4096, 3) := by decide +kernel
theorem dM_clear_16 : decode bM_clear 16 = .ok (.iload_n 1, 1) := by decide +kernel
theorem dM_clear_17 : decode bM_clear 17 = .ok (.imul, 1) := by decide +kernel
theorem dM_clear_18 : decode bM_clear 18 = .ok (.iload_n 2, 1) := by decide +kernel
theorem dM_clear_19 : decode bM_clear 19 = .ok (.iadd, 1) := by decide +kernel
theorem dM_clear_20 : decode bM_clear 20 = .ok (.iconst 0, 1) := by decide +kernel
theorem dM_clear_21 : decode bM_clear 21 = .ok (.iastore, 1) := by decide +kernel
theorem dM_clear_22 : decode bM_clear 22 = .ok (.iinc 2 1, 3) := by decide +kernel
theorem dM_clear_25 : decode bM_clear 25 = .ok (.goto (-23), 3) := by decide +kernel
theorem dM_clear_28 : decode bM_clear 28 = .ok (.return_, 1) := by decide +kernel
theorem dM_content_0 : decode bM_content 0 = .ok (.aload_n 0, 1) := by decide +kernel
theorem dM_content_1 : decode bM_content 1 = .ok (.aload_n 0, 1) := by decide +kernel
theorem dM_content_2 : decode bM_content 2 = .ok (.iload_n 1, 1) := by decide +kernel
theorem dM_content_3 : decode bM_content 3 = .ok (.invokevirtual 226, 3) := by decide +kernel
theorem dM_content_6 : decode bM_content 6 = .ok (.ifCond .ne 7, 3) := by decide +kernel
theorem dM_content_9 : decode bM_content 9 = .ok (.iconst 1, 1) := by decide +kernel
theorem dM_content_10 : decode bM_content 10 = .ok (.goto 4, 3) := by decide +kernel
theorem dM_content_14 : decode bM_content 14 = .ok (.aload_n 0, 1) := by decide +kernel
theorem dM_content_15 : decode bM_content 15 = .ok (.invokevirtual 229, 3) := by decide +kernel
theorem dM_content_18 : decode bM_content 18 = .ok (.aload_n 0, 1) := by decide +kernel
theorem dM_content_19 : decode bM_content 19 = .ok (.iload_n 2, 1) := by decide +kernel
theorem dM_content_20 : decode bM_content 20 = .ok (.invokevirtual 268, 3) := by decide +kernel
theorem dM_content_23 : decode bM_content 23 = .ok (.ifCond .ne 7, 3) := by decide +kernel
theorem dM_content_26 : decode bM_content 26 = .ok (.iconst 1, 1) := by decide +kernel
theorem dM_content_27 : decode bM_content 27 = .ok (.goto 4, 3) := by decide +kernel
theorem dM_content_30 : decode bM_content 30 = .ok (.iconst 0, 1) := by decide +kernel
theorem dM_content_31 : decode bM_content 31 = .ok (.invokevirtual 233, 3) := by decide +kernel
end
section
theorem dM_content_34 : decode bM_content 34 = .ok (.ifCond .eq 5, 3) := by decide +kernel
theorem dM_content_37 : decode bM_content 37 = .ok (.iconst 0, 1) := by decide +kernel
theorem dM_content_38 : decode bM_content 38 = .ok (.ireturn, 1) := by decide +kernel
theorem dM_copy_0 : decode bM_copy 0 = .ok (.iconst 0, 1) := by decide +kernel
theorem dM_copy_1 : decode bM_copy 1 = .ok (.istore_n 3, 1) := by decide +kernel
theorem dM_copy_2 : decode bM_copy 2 = .ok (.iload_n 3, 1) := by decide +kernel
theorem dM_copy_3 : decode bM_copy 3 = .ok (.sipush 4096, 3) := by decide +kernel
theorem dM_copy_6 : decode bM_copy 6 = .ok (.if_icmp .ge 33, 3) := by decide +kernel
theorem dM_copy_9 : decode bM_copy 9 = .ok (.aload_n 0, 1) := by decide +kernel
theorem dM_copy_10 : decode bM_copy 10 = .ok (.getfield 8, 3) := by decide +kernel
theorem dM_copy_13 : decode bM_copy 13 = .ok (.sipush 4096, 3) := by decide +kernel
theorem dM_copy_16 : decode bM_copy 16 = .ok (.iload_n 2, 1) := by decide +kernel
theorem dM_copy_17 : decode bM_copy 17 = .ok (.imul, 1) := by decide +kernel
theorem dM_copy_18 : decode bM_copy 18 = .ok (.iload_n 3, 1) := by decide +kernel
theorem dM_copy_19 : decode bM_copy 19 = .ok (.iadd, 1) := by decide +kernel
theorem dM_copy_20 : decode bM_copy 20 = .ok (.aload_n 0, 1) := by decide +kernel
theorem dM_copy_21 : decode bM_copy 21 = .ok (.getfield 8, 3) := by decide +kernel
theorem dM_copy_24 : decode bM_copy 24 = .ok (.sipush 4096, 3) := by decide +kernel
theorem dM_copy_27 : decode bM_copy 27 = .ok (.iload_n 1, 1) := by decide +kernel
theorem dM_copy_28 : decode bM_copy 28 = .ok (.imul, 1) := by decide +kernel
theorem dM_copy_29 : decode bM_copy 29 = .ok (.iload_n 3, 1) := by decide +kernel
theorem dM_copy_30 : decode bM_copy 30 = .ok (.iadd, 1) := by decide +kernel
theorem dM_copy_31 : decode bM_copy 31 = .ok (.iaload, 1) := by decide +kernel
theorem dM_copy_32 : decode bM_copy 32 = .ok (.iastore, 1) := by decide +kernel
theorem dM_copy_33 : decode bM_copy 33 = .ok (.iinc 3 1, 3) := by decide +kernel
theorem dM_copy_36 : decode bM_copy 36 = .ok (.goto (-34), 3) := by decide +kernel
theorem dM_copy_39 : decode bM_copy 39 = .ok (.return_, 1) := by decide +kernel
theorem dM_count_0 : decode bM_count 0 = .ok (.aload_n 0, 1) := by decide +kernel
theorem dM_count_1 : decode bM_count 1 = .ok (.iconst 0, 1) := by decide +kernel
theorem dM_count_2 : decode bM_count 2 = .ok (.putfield 69, 3) := by decide +kernel
theorem dM_count_5 : decode bM_count 5 = .ok (.aload_n 0, 1) := by decide +kernel
theorem dM_count_6 : decode bM_count 6 = .ok (.getfield 223, 3) := by decide +kernel
theorem dM_count_9 : decode bM_count 9 = .ok (.ireturn, 1) := by decide +kernel
theorem dM_degree_0 : decode bM_degree 0 = .ok (.aload_n 0, 1) := by decide +kernel
theorem dM_degree_1 : decode bM_degree 1 = .ok (.iload_n 1, 1) := by decide +kernel
theorem dM_degree_2 : decode bM_degree 2 = .ok (.invokevirtual 226, 3) := by decide +kernel
theorem dM_degree_5 : decode bM_degree 5 = .ok (.ifCond .ne 7, 3) := by decide +kernel
theorem dM_degree_8 : decode bM_degree 8 = .ok (.iconst 1, 1) := by decide +kernel
theorem dM_degree_9 : decode bM_degree 9 = .ok (.goto 4, 3) := by decide +kernel
theorem dM_degree_13 : decode bM_degree 13 = .ok (.istore_n 3, 1) := by decide +kernel
theorem dM_degree_14 : decode bM_degree 14 = .ok (.aload_n 0, 1) := by decide +kernel
theorem dM_degree_15 : decode bM_degree 15 = .ok (.iload_n 3, 1) := by decide +kernel
theorem dM_degree_16 : decode bM_degree 16 = .ok (.aload_n 0, 1) := by decide +kernel
theorem dM_degree_17 : decode bM_degree 17 = .ok (.iload_n 2, 1) := by decide +kernel
theorem dM_degree_18 : decode bM_degree 18 = .ok (.invokevirtual 268, 3) := by decide +kernel
theorem dM_degree_21 : decode bM_degree 21 = .ok (.ifCond .ne 7, 3) := by decide +kernel
theorem dM_degree_24 : decode bM_degree 24 = .ok (.iconst 1, 1) := by decide +kernel
theorem dM_degree_25 : decode bM_degree 25 = .ok (.goto 4, 3) := by decide +kernel
theorem dM_degree_28 : decode bM_degree 28 = .ok (.iconst 0, 1) := by decide +kernel
theorem dM_degree_29 : decode bM_degree 29 = .ok (.iconst 0, 1) := by decide +kernel
theorem dM_degree_30 : decode bM_degree 30 = .ok (.invokevirtual 233, 3) := by decide +kernel
theorem dM_degree_33 : decode bM_degree 33 = .ok (.ifCond .eq 5, 3) := by decide +kernel
theorem dM_degree_36 : decode bM_degree 36 = .ok (.iconst 0, 1) := by decide +kernel
theorem dM_degree_37 : decode bM_degree 37 = .ok (.ireturn, 1) := by decide +kernel
theorem dM_equal_0 : decode bM_equal 0 = .ok (.aload_n 0, 1) := by decide +kernel
theorem dM_equal_1 : decode bM_equal 1 = .ok (.aload_n 0, 1) := by decide +kernel
theorem dM_equal_2 : decode bM_equal 2 = .ok (.iload_n 1, 1) := by decide +kernel
theorem dM_equal_3 : decode bM_equal 3 = .ok (.iload_n 2, 1) := by decide +kernel
theorem dM_equal_4 : decode bM_equal 4 = .ok (.invokevirtual 244, 3) := by decide +kernel
theorem dM_equal_7 : decode bM_equal 7 = .ok (.iconst 0, 1) := by decide +kernel
theorem dM_equal_8 : decode bM_equal 8 = .ok (.iconst 0, 1) := by decide +kernel
theorem dM_equal_9 : decode bM_equal 9 = .ok (.invokevirtual 233, 3) := by decide +kernel
theorem dM_equal_12 : decode bM_equal 12 = .ok (.ifCond .eq 5, 3) := by decide +kernel
theorem dM_equal_15 : decode bM_equal 15 = .ok (.iconst 0, 1) := by decide +kernel
theorem dM_equal_16 : decode bM_equal 16 = .ok (.ireturn, 1) := by decide +kernel
theorem dM_fails_0 : decode bM_fails 0 = .ok (.aload_n 0, 1) := by decide +kernel
theorem dM_fails_1 : decode bM_fails 1 = .ok (.iload_n 1, 1) := by decide +kernel
theorem dM_fails_2 : decode bM_fails 2 = .ok (.ifCond .eq 7, 3) := by decide +kernel
theorem dM_fails_5 : decode bM_fails 5 = .ok (.iconst 1, 1) := by decide +kernel
theorem dM_fails_6 : decode bM_fails 6 = .ok (.goto 20, 3) := by decide +kernel
theorem dM_fails_9 : decode bM_fails 9 = .ok (.iload_n 2, 1) := by decide +kernel
theorem dM_fails_10 : decode bM_fails 10 = .ok (.ifCond .eq 7, 3) := by decide +kernel
theorem dM_fails_17 : decode bM_fails 17 = .ok (.iload_n 3, 1) := by decide +kernel
theorem dM_fails_18 : decode bM_fails 18 = .ok (.ifCond .eq 7, 3) := by decide +kernel
theorem dM_fails_25 : decode bM_fails 25 = .ok (.iconst 0, 1) := by decide +kernel
theorem dM_fails_26 : decode bM_fails 26 = .ok (.putfield 69, 3) := by decide +kernel
theorem dM_fails_29 : decode bM_fails 29 = .ok (.aload_n 0, 1) := by decide +kernel
theorem dM_fails_30 : decode bM_fails 30 = .ok (.getfield 69, 3) := by decide +kernel
theorem dM_fails_33 : decode bM_fails 33 = .ok (.ifCond .le 7, 3) := by decide +kernel
theorem dM_fails_36 : decode bM_fails 36 = .ok (.iconst 1, 1) := by decide +kernel
theorem dM_fails_37 : decode bM_fails 37 = .ok (.goto 4, 3) := by decide +kernel
theorem dM_fails_40 : decode bM_fails 40 = .ok (.iconst 0, 1) := by decide +kernel
theorem dM_fails_41 : decode bM_fails 41 = .ok (.ireturn, 1) := by decide +kernel
theorem dM_gcd_0 : decode bM_gcd 0 = .ok (.aload_n 0, 1) := by decide +kernel
theorem dM_gcd_1 : decode bM_gcd 1 = .ok (.aload_n 0, 1) := by decide +kernel
theorem dM_gcd_2 : decode bM_gcd 2 = .ok (.iload_n 1, 1) := by decide +kernel
theorem dM_gcd_3 : decode bM_gcd 3 = .ok (.iload_n 2, 1) := by decide +kernel
theorem dM_gcd_4 : decode bM_gcd 4 = .ok (.invokevirtual 244, 3) := by decide +kernel
theorem dM_gcd_7 : decode bM_gcd 7 = .ok (.aload_n 0, 1) := by decide +kernel
theorem dM_gcd_8 : decode bM_gcd 8 = .ok (.invokevirtual 229, 3) := by decide +kernel
theorem dM_gcd_11 : decode bM_gcd 11 = .ok (.iconst 0, 1) := by decide +kernel
theorem dM_gcd_12 : decode bM_gcd 12 = .ok (.invokevirtual 233, 3) := by decide +kernel
theorem dM_gcd_15 : decode bM_gcd 15 = .ok (.ifCond .eq 5, 3) := by decide +kernel
theorem dM_gcd_18 : decode bM_gcd 18 = .ok (.iconst 0, 1) := by decide +kernel
theorem dM_gcd_19 : decode bM_gcd 19 = .ok (.ireturn, 1) := by decide +kernel
theorem dM_image_0 : decode bM_image 0 = .ok (.aload_n 0, 1) := by decide +kernel
theorem dM_image_1 : decode bM_image 1 = .ok (.aload_n 0, 1) := by decide +kernel
theorem dM_image_2 : decode bM_image 2 = .ok (.iload_n 1, 1) := by decide +kernel
theorem dM_image_3 : decode bM_image 3 = .ok (.invokevirtual 226, 3) := by decide +kernel
theorem dM_image_6 : decode bM_image 6 = .ok (.ifCond .ne 7, 3) := by decide +kernel
theorem dM_image_9 : decode bM_image 9 = .ok (.iconst 1, 1) := by decide +kernel
theorem dM_image_10 : decode bM_image 10 = .ok (.goto 4, 3) := by decide +kernel
theorem dM_image_14 : decode bM_image 14 = .ok (.aload_n 0, 1) := by decide +kernel
theorem dM_image_15 : decode bM_image 15 = .ok (.invokevirtual 229, 3) := by decide +kernel
theorem dM_image_18 : decode bM_image 18 = .ok (.aload_n 0, 1) := by decide +kernel
theorem dM_image_19 : decode bM_image 19 = .ok (.iload_n 2, 1) := by decide +kernel
theorem dM_image_20 : decode bM_image 20 = .ok (.invokevirtual 268, 3) := by decide +kernel
theorem dM_image_23 : decode bM_image 23 = .ok (.ifCond .ne 7, 3) := by decide +kernel
theorem dM_image_26 : decode bM_image 26 = .ok (.iconst 1, 1) := by decide +kernel
theorem dM_image_27 : decode bM_image 27 = .ok (.goto 4, 3) := by decide +kernel
theorem dM_image_30 : decode bM_image 30 = .ok (.iconst 0, 1) := by decide +kernel
theorem dM_image_31 : decode bM_image 31 = .ok (.invokevirtual 233, 3) := by decide +kernel
theorem dM_image_34 : decode bM_image 34 = .ok (.ifCond .eq 5, 3) := by decide +kernel
theorem dM_image_37 : decode bM_image 37 = .ok (.iconst 0, 1) := by decide +kernel
theorem dM_image_38 : decode bM_image 38 = .ok (.ireturn, 1) := by decide +kernel
theorem dM_init_0 : decode bM_init 0 = .ok (.aload_n 0, 1) := by decide +kernel
theorem dM_init_1 : decode bM_init 1 = .ok (.invokespecial 1, 3) := by decide +kernel
theorem dM_init_4 : decode bM_init 4 = .ok (.aload_n 0, 1) := by decide +kernel
theorem dM_init_5 : decode bM_init 5 = .ok (.ldc 7, 2) := by decide +kernel
theorem dM_init_7 : decode bM_init 7 = .ok (.newarray .int, 2) := by decide +kernel
end
section
theorem dM_init_9 : decode bM_init 9 = .ok (.putfield 8, 3) := by decide +kernel
theorem dM_init_12 : decode bM_init 12 = .ok (.aload_n 0, 1) := by decide +kernel
theorem dM_init_13 : decode bM_init 13 = .ok (.sipush 16384, 3) := by decide +kernel
theorem dM_init_16 : decode bM_init 16 = .ok (.newarray .int, 2) := by decide +kernel
theorem dM_init_18 : decode bM_init 18 = .ok (.putfield 14, 3) := by decide +kernel
theorem dM_init_21 : decode bM_init 21 = .ok (.aload_n 0, 1) := by decide +kernel
theorem dM_init_22 : decode bM_init 22 = .ok (.sipush 128, 3) := by decide +kernel
theorem dM_init_25 : decode bM_init 25 = .ok (.newarray .int, 2) := by decide +kernel
theorem dM_init_27 : decode bM_init 27 = .ok (.putfield 17, 3) := by decide +kernel
theorem dM_init_30 : decode bM_init 30 = .ok (.aload_n 0, 1) := by decide +kernel
theorem dM_init_31 : decode bM_init 31 = .ok (.sipush 128, 3) := by decide +kernel
theorem dM_init_34 : decode bM_init 34 = .ok (.newarray .int, 2) := by decide +kernel
theorem dM_init_36 : decode bM_init 36 = .ok (.putfield 20, 3) := by decide +kernel
theorem dM_init_39 : decode bM_init 39 = .ok (.aload_n 0, 1) := by decide +kernel
theorem dM_init_40 : decode bM_init 40 = .ok (.sipush 128, 3) := by decide +kernel
theorem dM_init_43 : decode bM_init 43 = .ok (.newarray .int, 2) := by decide +kernel
theorem dM_init_45 : decode bM_init 45 = .ok (.putfield 23, 3) := by decide +kernel
theorem dM_init_48 : decode bM_init 48 = .ok (.aload_n 0, 1) := by decide +kernel
theorem dM_init_49 : decode bM_init 49 = .ok (.bipush 64, 2) := by decide +kernel
theorem dM_init_51 : decode bM_init 51 = .ok (.newarray .int, 2) := by decide +kernel
theorem dM_init_53 : decode bM_init 53 = .ok (.putfield 26, 3) := by decide +kernel
theorem dM_init_56 : decode bM_init 56 = .ok (.aload_n 0, 1) := by decide +kernel
theorem dM_init_57 : decode bM_init 57 = .ok (.bipush 64, 2) := by decide +kernel
theorem dM_init_59 : decode bM_init 59 = .ok (.newarray .int, 2) := by decide +kernel
theorem dM_init_61 : decode bM_init 61 = .ok (.putfield 29, 3) := by decide +kernel
theorem dM_init_64 : decode bM_init 64 = .ok (.aload_n 0, 1) := by decide +kernel
theorem dM_init_65 : decode bM_init 65 = .ok (.bipush 64, 2) := by decide +kernel
theorem dM_init_67 : decode bM_init 67 = .ok (.newarray .int, 2) := by decide +kernel
theorem dM_init_69 : decode bM_init 69 = .ok (.putfield 32, 3) := by decide +kernel
theorem dM_init_72 : decode bM_init 72 = .ok (.aload_n 0, 1) := by decide +kernel
theorem dM_init_73 : decode bM_init 73 = .ok (.bipush 64, 2) := by decide +kernel
theorem dM_init_75 : decode bM_init 75 = .ok (.newarray .int, 2) := by decide +kernel
theorem dM_init_77 : decode bM_init 77 = .ok (.putfield 35, 3) := by decide +kernel
theorem dM_init_80 : decode bM_init 80 = .ok (.aload_n 0, 1) := by decide +kernel
theorem dM_init_81 : decode bM_init 81 = .ok (.sipush 2048, 3) := by decide +kernel
theorem dM_init_84 : decode bM_init 84 = .ok (.newarray .int, 2) := by decide +kernel
theorem dM_init_86 : decode bM_init 86 = .ok (.putfield 38, 3) := by decide +kernel
theorem dM_init_89 : decode bM_init 89 = .ok (.aload_n 0, 1) := by decide +kernel
theorem dM_init_90 : decode bM_init 90 = .ok (.bipush 32, 2) := by decide +kernel
theorem dM_init_92 : decode bM_init 92 = .ok (.newarray .int, 2) := by decide +kernel
theorem dM_init_94 : decode bM_init 94 = .ok (.putfield 41, 3) := by decide +kernel
theorem dM_init_97 : decode bM_init 97 = .ok (.aload_n 0, 1) := by decide +kernel
theorem dM_init_98 : decode bM_init 98 = .ok (.sipush 512, 3) := by decide +kernel
theorem dM_init_101 : decode bM_init 101 = .ok (.newarray .int, 2) := by decide +kernel
theorem dM_init_103 : decode bM_init 103 = .ok (.putfield 44, 3) := by decide +kernel
theorem dM_init_106 : decode bM_init 106 = .ok (.aload_n 0, 1) := by decide +kernel
theorem dM_init_107 : decode bM_init 107 = .ok (.bipush 32, 2) := by decide +kernel
theorem dM_init_109 : decode bM_init 109 = .ok (.newarray .int, 2) := by decide +kernel
theorem dM_init_111 : decode bM_init 111 = .ok (.putfield 47, 3) := by decide +kernel
theorem dM_init_114 : decode bM_init 114 = .ok (.aload_n 0, 1) := by decide +kernel
theorem dM_init_115 : decode bM_init 115 = .ok (.sipush 16384, 3) := by decide +kernel
theorem dM_init_118 : decode bM_init 118 = .ok (.newarray .int, 2) := by decide +kernel
theorem dM_init_120 : decode bM_init 120 = .ok (.putfield 50, 3) := by decide +kernel
theorem dM_init_123 : decode bM_init 123 = .ok (.aload_n 0, 1) := by decide +kernel
theorem dM_init_124 : decode bM_init 124 = .ok (.sipush 16384, 3) := by decide +kernel
theorem dM_init_127 : decode bM_init 127 = .ok (.newarray .int, 2) := by decide +kernel
theorem dM_init_129 : decode bM_init 129 = .ok (.putfield 53, 3) := by decide +kernel
theorem dM_init_132 : decode bM_init 132 = .ok (.aload_n 0, 1) := by decide +kernel
theorem dM_init_133 : decode bM_init 133 = .ok (.sipush 256, 3) := by decide +kernel
theorem dM_init_136 : decode bM_init 136 = .ok (.newarray .int, 2) := by decide +kernel
theorem dM_init_138 : decode bM_init 138 = .ok (.putfield 56, 3) := by decide +kernel
theorem dM_init_141 : decode bM_init 141 = .ok (.aload_n 0, 1) := by decide +kernel
theorem dM_init_142 : decode bM_init 142 = .ok (.sipush 256, 3) := by decide +kernel
theorem dM_init_145 : decode bM_init 145 = .ok (.newarray .int, 2) := by decide +kernel
theorem dM_init_147 : decode bM_init 147 = .ok (.putfield 59, 3) := by decide +kernel
theorem dM_init_150 : decode bM_init 150 = .ok (.aload_n 0, 1) := by decide +kernel
theorem dM_init_151 : decode bM_init 151 = .ok (.sipush 900, 3) := by decide +kernel
theorem dM_init_154 : decode bM_init 154 = .ok (.newarray .int, 2) := by decide +kernel
theorem dM_init_156 : decode bM_init 156 = .ok (.putfield 62, 3) := by decide +kernel
theorem dM_init_159 : decode bM_init 159 = .ok (.aload_n 0, 1) := by decide +kernel
theorem dM_init_160 : decode bM_init 160 = .ok (.iload_n 1, 1) := by decide +kernel
theorem dM_init_161 : decode bM_init 161 = .ok (.iconst 1, 1) := by decide +kernel
theorem dM_init_162 : decode bM_init 162 = .ok (.if_icmp .ge 7, 3) := by decide +kernel
theorem dM_init_165 : decode bM_init 165 = .ok (.iconst 1, 1) := by decide +kernel
theorem dM_init_166 : decode bM_init 166 = .ok (.goto 13, 3) := by decide +kernel
theorem dM_init_169 : decode bM_init 169 = .ok (.iload_n 1, 1) := by decide +kernel
theorem dM_init_170 : decode bM_init 170 = .ok (.iconst 3, 1) := by decide +kernel
theorem dM_init_171 : decode bM_init 171 = .ok (.if_icmp .le 7, 3) := by decide +kernel
theorem dM_init_174 : decode bM_init 174 = .ok (.iconst 3, 1) := by decide +kernel
theorem dM_init_175 : decode bM_init 175 = .ok (.goto 4, 3) := by decide +kernel
theorem dM_init_178 : decode bM_init 178 = .ok (.iload_n 1, 1) := by decide +kernel
theorem dM_init_179 : decode bM_init 179 = .ok (.putfield 65, 3) := by decide +kernel
theorem dM_init_182 : decode bM_init 182 = .ok (.return_, 1) := by decide +kernel
theorem dM_isFull_0 : decode bM_isFull 0 = .ok (.aload_n 0, 1) := by decide +kernel
theorem dM_isFull_1 : decode bM_isFull 1 = .ok (.getfield 223, 3) := by decide +kernel
theorem dM_isFull_4 : decode bM_isFull 4 = .ok (.bipush 60, 2) := by decide +kernel
theorem dM_isFull_6 : decode bM_isFull 6 = .ok (.if_icmp .ne 7, 3) := by decide +kernel
theorem dM_isFull_13 : decode bM_isFull 13 = .ok (.iconst 0, 1) := by decide +kernel
theorem dM_isFull_14 : decode bM_isFull 14 = .ok (.ireturn, 1) := by decide +kernel
theorem dM_isLetter_0 : decode bM_isLetter 0 = .ok (.iload_n 1, 1) := by decide +kernel
theorem dM_isLetter_1 : decode bM_isLetter 1 = .ok (.ifCond .lt 15, 3) := by decide +kernel
theorem dM_isLetter_4 : decode bM_isLetter 4 = .ok (.iload_n 1, 1) := by decide +kernel
theorem dM_isLetter_5 : decode bM_isLetter 5 = .ok (.aload_n 0, 1) := by decide +kernel
theorem dM_isLetter_6 : decode bM_isLetter 6 = .ok (.getfield 65, 3) := by decide +kernel
theorem dM_isLetter_9 : decode bM_isLetter 9 = .ok (.if_icmp .ge 7, 3) := by decide +kernel
theorem dM_isLetter_12 : decode bM_isLetter 12 = .ok (.iconst 1, 1) := by decide +kernel
theorem dM_isLetter_13 : decode bM_isLetter 13 = .ok (.goto 4, 3) := by decide +kernel
theorem dM_isLetter_16 : decode bM_isLetter 16 = .ok (.iconst 0, 1) := by decide +kernel
theorem dM_isLetter_17 : decode bM_isLetter 17 = .ok (.ireturn, 1) := by decide +kernel
theorem dM_isPoly_0 : decode bM_isPoly 0 = .ok (.iload_n 1, 1) := by decide +kernel
theorem dM_isPoly_1 : decode bM_isPoly 1 = .ok (.ifCond .lt 15, 3) := by decide +kernel
theorem dM_isPoly_4 : decode bM_isPoly 4 = .ok (.iload_n 1, 1) := by decide +kernel
theorem dM_isPoly_5 : decode bM_isPoly 5 = .ok (.aload_n 0, 1) := by decide +kernel
theorem dM_isPoly_6 : decode bM_isPoly 6 = .ok (.getfield 223, 3) := by decide +kernel
theorem dM_isPoly_9 : decode bM_isPoly 9 = .ok (.if_icmp .ge 7, 3) := by decide +kernel
theorem dM_isPoly_16 : decode bM_isPoly 16 = .ok (.iconst 0, 1) := by decide +kernel
theorem dM_isPoly_17 : decode bM_isPoly 17 = .ok (.ireturn, 1) := by decide +kernel
theorem dM_made_0 : decode bM_made 0 = .ok (.aload_n 0, 1) := by decide +kernel
theorem dM_made_1 : decode bM_made 1 = .ok (.iload_n 1, 1) := by decide +kernel
theorem dM_made_2 : decode bM_made 2 = .ok (.aload_n 0, 1) := by decide +kernel
theorem dM_made_3 : decode bM_made 3 = .ok (.getfield 223, 3) := by decide +kernel
theorem dM_made_6 : decode bM_made 6 = .ok (.invokevirtual 99, 3) := by decide +kernel
theorem dM_made_9 : decode bM_made 9 = .ok (.aload_n 0, 1) := by decide +kernel
theorem dM_made_10 : decode bM_made 10 = .ok (.dup, 1) := by decide +kernel
theorem dM_made_11 : decode bM_made 11 = .ok (.getfield 223, 3) := by decide +kernel
theorem dM_made_14 : decode bM_made 14 = .ok (.iconst 1, 1) := by decide +kernel
theorem dM_made_15 : decode bM_made 15 = .ok (.iadd, 1) := by decide +kernel
theorem dM_made_16 : decode bM_made 16 = .ok (.putfield 223, 3) := by decide +kernel
theorem dM_made_19 : decode bM_made 19 = .ok (.aload_n 0, 1) := by decide +kernel
theorem dM_made_20 : decode bM_made 20 = .ok (.getfield 223, 3) := by decide +kernel
end
section
theorem dM_made_23 : decode bM_made 23 = .ok (.iconst 1, 1) := by decide +kernel
theorem dM_made_24 : decode bM_made 24 = .ok (.isub, 1) := by decide +kernel
theorem dM_made_25 : decode bM_made 25 = .ok (.ireturn, 1) := by decide +kernel
theorem dM_number_0 : decode bM_number 0 = .ok (.lload_n 0, 1) := by decide +kernel
theorem dM_number_1 : decode bM_number 1 = .ok (.ldc2_w 72, 3) := by decide +kernel
theorem dM_number_4 : decode bM_number 4 = .ok (.lrem, 1) := by decide +kernel
theorem dM_number_5 : decode bM_number 5 = .ok (.l2i, 1) := by decide +kernel
theorem dM_number_6 : decode bM_number 6 = .ok (.istore_n 2, 1) := by decide +kernel
theorem dM_number_7 : decode bM_number 7 = .ok (.iload_n 2, 1) := by decide +kernel
theorem dM_number_8 : decode bM_number 8 = .ok (.ifCond .ge 11, 3) := by decide +kernel
theorem dM_number_11 : decode bM_number 11 = .ok (.iload_n 2, 1) := by decide +kernel
theorem dM_number_12 : decode bM_number 12 = .ok (.sipush 32003, 3) := by decide +kernel
theorem dM_number_15 : decode bM_number 15 = .ok (.iadd, 1) := by decide +kernel
theorem dM_number_16 : decode bM_number 16 = .ok (.goto 4, 3) := by decide +kernel
theorem dM_number_19 : decode bM_number 19 = .ok (.iload_n 2, 1) := by decide +kernel
theorem dM_number_20 : decode bM_number 20 = .ok (.ireturn, 1) := by decide +kernel
theorem dM_over_0 : decode bM_over 0 = .ok (.aload_n 0, 1) := by decide +kernel
theorem dM_over_1 : decode bM_over 1 = .ok (.aload_n 0, 1) := by decide +kernel
theorem dM_over_2 : decode bM_over 2 = .ok (.iload_n 1, 1) := by decide +kernel
theorem dM_over_3 : decode bM_over 3 = .ok (.iload_n 2, 1) := by decide +kernel
theorem dM_over_4 : decode bM_over 4 = .ok (.invokevirtual 244, 3) := by decide +kernel
theorem dM_over_7 : decode bM_over 7 = .ok (.aload_n 0, 1) := by decide +kernel
theorem dM_over_8 : decode bM_over 8 = .ok (.invokevirtual 229, 3) := by decide +kernel
theorem dM_over_11 : decode bM_over 11 = .ok (.iconst 0, 1) := by decide +kernel
theorem dM_over_12 : decode bM_over 12 = .ok (.invokevirtual 233, 3) := by decide +kernel
theorem dM_over_15 : decode bM_over 15 = .ok (.ifCond .eq 5, 3) := by decide +kernel
theorem dM_over_18 : decode bM_over 18 = .ok (.iconst 0, 1) := by decide +kernel
theorem dM_over_19 : decode bM_over 19 = .ok (.ireturn, 1) := by decide +kernel
theorem dM_part_0 : decode bM_part 0 = .ok (.aload_n 0, 1) := by decide +kernel
theorem dM_part_1 : decode bM_part 1 = .ok (.iload_n 1, 1) := by decide +kernel
theorem dM_part_2 : decode bM_part 2 = .ok (.invokevirtual 226, 3) := by decide +kernel
theorem dM_part_5 : decode bM_part 5 = .ok (.ifCond .ne 7, 3) := by decide +kernel
theorem dM_part_8 : decode bM_part 8 = .ok (.iconst 1, 1) := by decide +kernel
theorem dM_part_9 : decode bM_part 9 = .ok (.goto 4, 3) := by decide +kernel
theorem dM_part_13 : decode bM_part 13 = .ok (.istore_n 3, 1) := by decide +kernel
theorem dM_part_14 : decode bM_part 14 = .ok (.iload_n 3, 1) := by decide +kernel
theorem dM_part_15 : decode bM_part 15 = .ok (.ifCond .ne 26, 3) := by decide +kernel
theorem dM_part_41 : decode bM_part 41 = .ok (.iconst 0, 1) := by decide +kernel
theorem dM_part_42 : decode bM_part 42 = .ok (.istore 4, 2) := by decide +kernel
theorem dM_part_44 : decode bM_part 44 = .ok (.aload_n 0, 1) := by decide +kernel
theorem dM_part_45 : decode bM_part 45 = .ok (.iload_n 3, 1) := by decide +kernel
theorem dM_part_46 : decode bM_part 46 = .ok (.aload_n 0, 1) := by decide +kernel
theorem dM_part_47 : decode bM_part 47 = .ok (.invokevirtual 229, 3) := by decide +kernel
theorem dM_part_50 : decode bM_part 50 = .ok (.iload 4, 2) := by decide +kernel
theorem dM_part_52 : decode bM_part 52 = .ok (.invokevirtual 233, 3) := by decide +kernel
theorem dM_part_55 : decode bM_part 55 = .ok (.ifCond .eq 5, 3) := by decide +kernel
theorem dM_part_58 : decode bM_part 58 = .ok (.iconst 0, 1) := by decide +kernel
theorem dM_part_59 : decode bM_part 59 = .ok (.ireturn, 1) := by decide +kernel
theorem dM_poly_0 : decode bM_poly 0 = .ok (.aload_n 0, 1) := by decide +kernel
theorem dM_poly_1 : decode bM_poly 1 = .ok (.aload_n 0, 1) := by decide +kernel
theorem dM_poly_2 : decode bM_poly 2 = .ok (.invokevirtual 229, 3) := by decide +kernel
theorem dM_poly_5 : decode bM_poly 5 = .ok (.iconst 0, 1) := by decide +kernel
theorem dM_poly_6 : decode bM_poly 6 = .ok (.iconst 0, 1) := by decide +kernel
theorem dM_poly_7 : decode bM_poly 7 = .ok (.invokevirtual 233, 3) := by decide +kernel
theorem dM_poly_10 : decode bM_poly 10 = .ok (.ifCond .eq 5, 3) := by decide +kernel
theorem dM_poly_15 : decode bM_poly 15 = .ok (.aload_n 0, 1) := by decide +kernel
theorem dM_poly_16 : decode bM_poly 16 = .ok (.bipush 66, 2) := by decide +kernel
theorem dM_poly_18 : decode bM_poly 18 = .ok (.invokevirtual 95, 3) := by decide +kernel
theorem dM_poly_21 : decode bM_poly 21 = .ok (.aload_n 0, 1) := by decide +kernel
theorem dM_poly_22 : decode bM_poly 22 = .ok (.bipush 66, 2) := by decide +kernel
theorem dM_poly_24 : decode bM_poly 24 = .ok (.invokevirtual 237, 3) := by decide +kernel
theorem dM_poly_27 : decode bM_poly 27 = .ok (.ireturn, 1) := by decide +kernel
theorem dM_resultant_0 : decode bM_resultant 0 = .ok (.aload_n 0, 1) := by decide +kernel
theorem dM_resultant_1 : decode bM_resultant 1 = .ok (.iload_n 1, 1) := by decide +kernel
theorem dM_resultant_2 : decode bM_resultant 2 = .ok (.iload_n 2, 1) := by decide +kernel
theorem dM_resultant_3 : decode bM_resultant 3 = .ok (.invokevirtual 244, 3) := by decide +kernel
theorem dM_resultant_6 : decode bM_resultant 6 = .ok (.istore 4, 2) := by decide +kernel
theorem dM_resultant_8 : decode bM_resultant 8 = .ok (.iload 4, 2) := by decide +kernel
theorem dM_resultant_10 : decode bM_resultant 10 = .ok (.ifCond .ne 25, 3) := by decide +kernel
theorem dM_resultant_35 : decode bM_resultant 35 = .ok (.iconst 0, 1) := by decide +kernel
theorem dM_resultant_36 : decode bM_resultant 36 = .ok (.istore 5, 2) := by decide +kernel
theorem dM_resultant_38 : decode bM_resultant 38 = .ok (.aload_n 0, 1) := by decide +kernel
theorem dM_resultant_39 : decode bM_resultant 39 = .ok (.iload 4, 2) := by decide +kernel
theorem dM_resultant_41 : decode bM_resultant 41 = .ok (.aload_n 0, 1) := by decide +kernel
theorem dM_resultant_42 : decode bM_resultant 42 = .ok (.invokevirtual 229, 3) := by decide +kernel
theorem dM_resultant_45 : decode bM_resultant 45 = .ok (.iload 5, 2) := by decide +kernel
theorem dM_resultant_47 : decode bM_resultant 47 = .ok (.invokevirtual 233, 3) := by decide +kernel
theorem dM_resultant_50 : decode bM_resultant 50 = .ok (.ifCond .eq 5, 3) := by decide +kernel
theorem dM_resultant_53 : decode bM_resultant 53 = .ok (.iconst 0, 1) := by decide +kernel
theorem dM_resultant_54 : decode bM_resultant 54 = .ok (.ireturn, 1) := by decide +kernel
theorem dM_slope_0 : decode bM_slope 0 = .ok (.aload_n 0, 1) := by decide +kernel
theorem dM_slope_1 : decode bM_slope 1 = .ok (.aload_n 0, 1) := by decide +kernel
theorem dM_slope_2 : decode bM_slope 2 = .ok (.iload_n 1, 1) := by decide +kernel
theorem dM_slope_3 : decode bM_slope 3 = .ok (.invokevirtual 226, 3) := by decide +kernel
theorem dM_slope_6 : decode bM_slope 6 = .ok (.ifCond .ne 7, 3) := by decide +kernel
theorem dM_slope_9 : decode bM_slope 9 = .ok (.iconst 1, 1) := by decide +kernel
theorem dM_slope_10 : decode bM_slope 10 = .ok (.goto 4, 3) := by decide +kernel
theorem dM_slope_14 : decode bM_slope 14 = .ok (.aload_n 0, 1) := by decide +kernel
theorem dM_slope_15 : decode bM_slope 15 = .ok (.invokevirtual 229, 3) := by decide +kernel
theorem dM_slope_18 : decode bM_slope 18 = .ok (.aload_n 0, 1) := by decide +kernel
theorem dM_slope_19 : decode bM_slope 19 = .ok (.iload_n 2, 1) := by decide +kernel
theorem dM_slope_20 : decode bM_slope 20 = .ok (.invokevirtual 268, 3) := by decide +kernel
theorem dM_slope_23 : decode bM_slope 23 = .ok (.ifCond .ne 7, 3) := by decide +kernel
theorem dM_slope_26 : decode bM_slope 26 = .ok (.iconst 1, 1) := by decide +kernel
theorem dM_slope_27 : decode bM_slope 27 = .ok (.goto 4, 3) := by decide +kernel
theorem dM_slope_30 : decode bM_slope 30 = .ok (.iconst 0, 1) := by decide +kernel
theorem dM_slope_31 : decode bM_slope 31 = .ok (.invokevirtual 233, 3) := by decide +kernel
theorem dM_slope_34 : decode bM_slope 34 = .ok (.ifCond .eq 5, 3) := by decide +kernel
theorem dM_slope_37 : decode bM_slope 37 = .ok (.iconst 0, 1) := by decide +kernel
theorem dM_slope_38 : decode bM_slope 38 = .ok (.ireturn, 1) := by decide +kernel
theorem dM_term_0 : decode bM_term 0 = .ok (.aload_n 0, 1) := by decide +kernel
theorem dM_term_1 : decode bM_term 1 = .ok (.aload_n 0, 1) := by decide +kernel
theorem dM_term_2 : decode bM_term 2 = .ok (.iload_n 1, 1) := by decide +kernel
theorem dM_term_3 : decode bM_term 3 = .ok (.invokevirtual 226, 3) := by decide +kernel
theorem dM_term_6 : decode bM_term 6 = .ok (.ifCond .ne 7, 3) := by decide +kernel
theorem dM_term_9 : decode bM_term 9 = .ok (.iconst 1, 1) := by decide +kernel
theorem dM_term_10 : decode bM_term 10 = .ok (.goto 4, 3) := by decide +kernel
theorem dM_term_14 : decode bM_term 14 = .ok (.iload 6, 2) := by decide +kernel
theorem dM_term_16 : decode bM_term 16 = .ok (.ifCond .lt 16, 3) := by decide +kernel
theorem dM_term_19 : decode bM_term 19 = .ok (.iload 6, 2) := by decide +kernel
theorem dM_term_21 : decode bM_term 21 = .ok (.iconst 1, 1) := by decide +kernel
theorem dM_term_22 : decode bM_term 22 = .ok (.iconst 4, 1) := by decide +kernel
theorem dM_term_23 : decode bM_term 23 = .ok (.aload_n 0, 1) := by decide +kernel
theorem dM_term_24 : decode bM_term 24 = .ok (.getfield 65, 3) := by decide +kernel
theorem dM_term_27 : decode bM_term 27 = .ok (.imul, 1) := by decide +kernel
theorem dM_term_28 : decode bM_term 28 = .ok (.ishl, 1) := by decide +kernel
theorem dM_term_29 : decode bM_term 29 = .ok (.if_icmp .lt 7, 3) := by decide +kernel
theorem dM_term_32 : decode bM_term 32 = .ok (.iconst 1, 1) := by decide +kernel
theorem dM_term_33 : decode bM_term 33 = .ok (.goto 4, 3) := by decide +kernel
theorem dM_term_36 : decode bM_term 36 = .ok (.iconst 0, 1) := by decide +kernel
end
section
theorem dM_term_37 : decode bM_term 37 = .ok (.lload 4, 2) := by decide +kernel
theorem dM_term_39 : decode bM_term 39 = .ok (.invokestatic 240, 3) := by decide +kernel
theorem dM_term_42 : decode bM_term 42 = .ok (.ifCond .ne 7, 3) := by decide +kernel
theorem dM_term_45 : decode bM_term 45 = .ok (.iconst 1, 1) := by decide +kernel
theorem dM_term_46 : decode bM_term 46 = .ok (.goto 4, 3) := by decide +kernel
theorem dM_term_49 : decode bM_term 49 = .ok (.iconst 0, 1) := by decide +kernel
theorem dM_term_50 : decode bM_term 50 = .ok (.invokevirtual 233, 3) := by decide +kernel
theorem dM_term_53 : decode bM_term 53 = .ok (.ifCond .eq 5, 3) := by decide +kernel
theorem dM_term_56 : decode bM_term 56 = .ok (.iconst 0, 1) := by decide +kernel
theorem dM_term_57 : decode bM_term 57 = .ok (.ireturn, 1) := by decide +kernel
theorem dM_terms_0 : decode bM_terms 0 = .ok (.aload_n 0, 1) := by decide +kernel
theorem dM_terms_1 : decode bM_terms 1 = .ok (.aload_n 0, 1) := by decide +kernel
theorem dM_terms_2 : decode bM_terms 2 = .ok (.iload_n 1, 1) := by decide +kernel
theorem dM_terms_3 : decode bM_terms 3 = .ok (.invokevirtual 226, 3) := by decide +kernel
theorem dM_terms_6 : decode bM_terms 6 = .ok (.ifCond .ne 7, 3) := by decide +kernel
theorem dM_terms_9 : decode bM_terms 9 = .ok (.iconst 1, 1) := by decide +kernel
theorem dM_terms_10 : decode bM_terms 10 = .ok (.goto 4, 3) := by decide +kernel
theorem dM_terms_14 : decode bM_terms 14 = .ok (.iconst 0, 1) := by decide +kernel
theorem dM_terms_15 : decode bM_terms 15 = .ok (.iconst 0, 1) := by decide +kernel
theorem dM_terms_16 : decode bM_terms 16 = .ok (.invokevirtual 233, 3) := by decide +kernel
theorem dM_terms_19 : decode bM_terms 19 = .ok (.ifCond .eq 5, 3) := by decide +kernel
theorem dM_terms_22 : decode bM_terms 22 = .ok (.iconst 0, 1) := by decide +kernel
theorem dM_terms_23 : decode bM_terms 23 = .ok (.ireturn, 1) := by decide +kernel
theorem dM_thrown_0 : decode bM_thrown 0 = .ok (.aload_n 0, 1) := by decide +kernel
theorem dM_thrown_1 : decode bM_thrown 1 = .ok (.getfield 69, 3) := by decide +kernel
theorem dM_thrown_4 : decode bM_thrown 4 = .ok (.ireturn, 1) := by decide +kernel
theorem dM_times_0 : decode bM_times 0 = .ok (.aload_n 0, 1) := by decide +kernel
theorem dM_times_1 : decode bM_times 1 = .ok (.aload_n 0, 1) := by decide +kernel
theorem dM_times_2 : decode bM_times 2 = .ok (.iload_n 1, 1) := by decide +kernel
theorem dM_times_3 : decode bM_times 3 = .ok (.iload_n 2, 1) := by decide +kernel
theorem dM_times_4 : decode bM_times 4 = .ok (.invokevirtual 244, 3) := by decide +kernel
theorem dM_times_7 : decode bM_times 7 = .ok (.aload_n 0, 1) := by decide +kernel
theorem dM_times_8 : decode bM_times 8 = .ok (.invokevirtual 229, 3) := by decide +kernel
theorem dM_times_11 : decode bM_times 11 = .ok (.aload_n 0, 1) := by decide +kernel
theorem dM_times_12 : decode bM_times 12 = .ok (.iload_n 1, 1) := by decide +kernel
theorem dM_times_13 : decode bM_times 13 = .ok (.iload_n 2, 1) := by decide +kernel
theorem dM_times_14 : decode bM_times 14 = .ok (.invokevirtual 244, 3) := by decide +kernel
theorem dM_times_17 : decode bM_times 17 = .ok (.ifCond .ne 16, 3) := by decide +kernel
theorem dM_times_33 : decode bM_times 33 = .ok (.iconst 0, 1) := by decide +kernel
theorem dM_times_34 : decode bM_times 34 = .ok (.invokevirtual 233, 3) := by decide +kernel
theorem dM_times_37 : decode bM_times 37 = .ok (.ifCond .eq 5, 3) := by decide +kernel
theorem dM_times_40 : decode bM_times 40 = .ok (.iconst 0, 1) := by decide +kernel
theorem dM_times_41 : decode bM_times 41 = .ok (.ireturn, 1) := by decide +kernel
theorem dP_init_0 : decode bP_init 0 = .ok (.aload_n 0, 1) := by decide +kernel
theorem dP_init_1 : decode bP_init 1 = .ok (.invokespecial 3, 3) := by decide +kernel
theorem dP_init_4 : decode bP_init 4 = .ok (.iload_n 1, 1) := by decide +kernel
theorem dP_init_5 : decode bP_init 5 = .ok (.ifCond .ge 7, 3) := by decide +kernel
theorem dP_init_12 : decode bP_init 12 = .ok (.iload_n 1, 1) := by decide +kernel
theorem dP_init_13 : decode bP_init 13 = .ok (.istore_n 2, 1) := by decide +kernel
theorem dP_init_14 : decode bP_init 14 = .ok (.aload_n 0, 1) := by decide +kernel
theorem dP_init_15 : decode bP_init 15 = .ok (.iconst 0, 1) := by decide +kernel
theorem dP_init_16 : decode bP_init 16 = .ok (.putfield 9, 3) := by decide +kernel
theorem dP_init_19 : decode bP_init 19 = .ok (.aload_n 0, 1) := by decide +kernel
theorem dP_init_20 : decode bP_init 20 = .ok (.iload_n 2, 1) := by decide +kernel
theorem dP_init_21 : decode bP_init 21 = .ok (.newarray .int, 2) := by decide +kernel
theorem dP_init_23 : decode bP_init 23 = .ok (.putfield 15, 3) := by decide +kernel
theorem dP_init_26 : decode bP_init 26 = .ok (.aload_n 0, 1) := by decide +kernel
theorem dP_init_27 : decode bP_init 27 = .ok (.iload_n 2, 1) := by decide +kernel
theorem dP_init_28 : decode bP_init 28 = .ok (.newarray .int, 2) := by decide +kernel
theorem dP_init_30 : decode bP_init 30 = .ok (.putfield 19, 3) := by decide +kernel
theorem dP_init_33 : decode bP_init 33 = .ok (.return_, 1) := by decide +kernel
end
section
def B0 : List Cond := [Cond.classLink "ImageGcds" 137 th_X, Cond.initialized th_X, Cond.fieldLink "ImageGcds" 19 "ImageGcds" "made" "I", Cond.methodLink "ImageGcds" 32 yG_held, Cond.instanceMethod yG_held, Cond.selects "ImageGcds" yG_held yG_held, Cond.initialized "ImageGcds", Cond.code yG_held bG_held 2 (some (.object "ImageGcds$Poly")), Cond.classLink "ImageGcdsLaw" 19 th_X, Cond.methodLink "ImageGcdsLaw" 15 yG_term, Cond.instanceMethod yG_term, Cond.selects "ImageGcds" yG_term yG_term, Cond.code yG_term bG_term 10 (some .boolean), Cond.methodLink "ImageGcdsLaw" 25 yG_add, Cond.instanceMethod yG_add, Cond.selects "ImageGcds" yG_add yG_add, Cond.code yG_add bG_add 5 (some .int), Cond.methodLink "ImageGcdsLaw" 29 yG_times, Cond.instanceMethod yG_times, Cond.selects "ImageGcds" yG_times yG_times]
def B1 : List Cond := [Cond.code yG_times bG_times 5 (some .int), Cond.methodLink "ImageGcdsLaw" 32 yG_over, Cond.instanceMethod yG_over, Cond.selects "ImageGcds" yG_over yG_over, Cond.code yG_over bG_over 6 (some .int), Cond.methodLink "ImageGcdsLaw" 35 yG_gcd, Cond.instanceMethod yG_gcd, Cond.selects "ImageGcds" yG_gcd yG_gcd, Cond.code yG_gcd bG_gcd 5 (some .int), Cond.methodLink "ImageGcdsLaw" 38 yG_resultant, Cond.instanceMethod yG_resultant, Cond.selects "ImageGcds" yG_resultant yG_resultant, Cond.code yG_resultant bG_resultant 6 (some .int), Cond.methodLink "ImageGcdsLaw" 42 yG_slope, Cond.instanceMethod yG_slope, Cond.selects "ImageGcds" yG_slope yG_slope, Cond.code yG_slope bG_slope 4 (some .int), Cond.methodLink "ImageGcdsLaw" 45 yG_content, Cond.instanceMethod yG_content, Cond.selects "ImageGcds" yG_content yG_content]
def B2 : List Cond := [Cond.code yG_content bG_content 4 (some .int), Cond.methodLink "ImageGcdsLaw" 48 yG_part, Cond.instanceMethod yG_part, Cond.selects "ImageGcds" yG_part yG_part, Cond.code yG_part bG_part 4 (some .int), Cond.methodLink "ImageGcdsLaw" 51 yG_image, Cond.instanceMethod yG_image, Cond.selects "ImageGcds" yG_image yG_image, Cond.code yG_image bG_image 5 (some .int), Cond.methodLink "ImageGcdsLaw" 54 yG_equal, Cond.instanceMethod yG_equal, Cond.selects "ImageGcds" yG_equal yG_equal, Cond.code yG_equal bG_equal 5 (some .boolean), Cond.methodLink "ImageGcdsLaw" 58 yG_terms, Cond.instanceMethod yG_terms, Cond.selects "ImageGcds" yG_terms yG_terms, Cond.code yG_terms bG_terms 2 (some .int), Cond.methodLink "ImageGcdsLaw" 62 yG_at, Cond.instanceMethod yG_at, Cond.selects "ImageGcds" yG_at yG_at]
def B3 : List Cond := [Cond.code yG_at bG_at 5 (some .int), Cond.methodLink "ImageGcdsLaw" 65 yG_degree, Cond.instanceMethod yG_degree, Cond.selects "ImageGcds" yG_degree yG_degree, Cond.code yG_degree bG_degree 4 (some .int), Cond.constantLong "ImageGcdsModel" 72 (32003), Cond.fieldLink "ImageGcdsModel" 223 "ImageGcdsModel" "count" "I", Cond.fieldLink "ImageGcdsModel" 65 "ImageGcdsModel" "letters" "I", Cond.methodLink "ImageGcdsModel" 226 yM_isPoly, Cond.instanceMethod yM_isPoly, Cond.selects "ImageGcdsModel" yM_isPoly yM_isPoly, Cond.initialized "ImageGcdsModel", Cond.code yM_isPoly bM_isPoly 2 (some .boolean), Cond.fieldLink "ImageGcdsModel" 69 "ImageGcdsModel" "thrown" "I", Cond.methodLink "ImageGcdsModel" 240 yM_number, Cond.static yM_number, Cond.code yM_number bM_number 3 (some .int), Cond.methodLink "ImageGcdsModel" 233 yM_fails, Cond.instanceMethod yM_fails, Cond.selects "ImageGcdsModel" yM_fails yM_fails]
def B4 : List Cond := [Cond.code yM_fails bM_fails 4 (some .boolean), Cond.methodLink "ImageGcdsModel" 244 yM_areNot, Cond.instanceMethod yM_areNot, Cond.selects "ImageGcdsModel" yM_areNot yM_areNot, Cond.code yM_areNot bM_areNot 3 (some .boolean), Cond.methodLink "ImageGcdsModel" 229 yM_isFull, Cond.instanceMethod yM_isFull, Cond.selects "ImageGcdsModel" yM_isFull yM_isFull, Cond.code yM_isFull bM_isFull 1 (some .boolean), Cond.methodLink "ImageGcdsModel" 268 yM_isLetter, Cond.instanceMethod yM_isLetter, Cond.selects "ImageGcdsModel" yM_isLetter yM_isLetter, Cond.code yM_isLetter bM_isLetter 2 (some .boolean), Cond.methodLink "ImageGcds" 1 Lib.objectInit, Cond.instanceMethod Lib.objectInit, Cond.code Lib.objectInit ⟨#[0xb1]⟩ 1 none, Cond.fieldLink "ImageGcds" 9 "ImageGcds" "letters" "I", Cond.classLink "ImageGcds" 13 "ImageGcds$Poly", Cond.fieldLink "ImageGcds" 15 "ImageGcds" "polys" "[LImageGcds$Poly;", Cond.methodLink "ImageGcdsModel" 1 Lib.objectInit]
def B5 : List Cond := [Cond.constant "ImageGcdsModel" 7 (290816), Cond.arrayClass .int, Cond.fieldLink "ImageGcdsModel" 8 "ImageGcdsModel" "n" "[I", Cond.fieldLink "ImageGcdsModel" 14 "ImageGcdsModel" "two" "[I", Cond.fieldLink "ImageGcdsModel" 17 "ImageGcdsModel" "a" "[I", Cond.fieldLink "ImageGcdsModel" 20 "ImageGcdsModel" "b" "[I", Cond.fieldLink "ImageGcdsModel" 23 "ImageGcdsModel" "c" "[I", Cond.fieldLink "ImageGcdsModel" 26 "ImageGcdsModel" "point" "[I", Cond.fieldLink "ImageGcdsModel" 29 "ImageGcdsModel" "given" "[I", Cond.fieldLink "ImageGcdsModel" 32 "ImageGcdsModel" "whole" "[I", Cond.fieldLink "ImageGcdsModel" 35 "ImageGcdsModel" "pointsTwo" "[I", Cond.fieldLink "ImageGcdsModel" 38 "ImageGcdsModel" "valuesTwo" "[I", Cond.fieldLink "ImageGcdsModel" 41 "ImageGcdsModel" "pointsY" "[I", Cond.fieldLink "ImageGcdsModel" 44 "ImageGcdsModel" "valuesY" "[I", Cond.fieldLink "ImageGcdsModel" 47 "ImageGcdsModel" "pointsZ" "[I", Cond.fieldLink "ImageGcdsModel" 50 "ImageGcdsModel" "valuesZ" "[I", Cond.fieldLink "ImageGcdsModel" 53 "ImageGcdsModel" "grid" "[I", Cond.fieldLink "ImageGcdsModel" 56 "ImageGcdsModel" "planeA" "[I", Cond.fieldLink "ImageGcdsModel" 59 "ImageGcdsModel" "planeB" "[I", Cond.fieldLink "ImageGcdsModel" 62 "ImageGcdsModel" "matrix" "[I"]
def B6 : List Cond := [Cond.methodLink "ImageGcds$Poly" 3 Lib.objectInit, Cond.fieldLink "ImageGcds$Poly" 9 "ImageGcds$Poly" "size" "I", Cond.fieldLink "ImageGcds$Poly" 15 "ImageGcds$Poly" "keys" "[I", Cond.fieldLink "ImageGcds$Poly" 19 "ImageGcds$Poly" "numbers" "[I", Cond.methodLink "ImageGcdsModel" 99 yM_copy, Cond.instanceMethod yM_copy, Cond.selects "ImageGcdsModel" yM_copy yM_copy, Cond.code yM_copy bM_copy 4 none, Cond.methodLink "ImageGcdsModel" 95 yM_clear, Cond.instanceMethod yM_clear, Cond.selects "ImageGcdsModel" yM_clear yM_clear, Cond.code yM_clear bM_clear 3 none, Cond.methodLink "ImageGcdsModel" 237 yM_made, Cond.instanceMethod yM_made, Cond.selects "ImageGcdsModel" yM_made yM_made, Cond.code yM_made bM_made 2 (some .int), Cond.methodLink "ImageGcds" 22 yG_requireRoom, Cond.instanceMethod yG_requireRoom, Cond.selects "ImageGcds" yG_requireRoom yG_requireRoom, Cond.code yG_requireRoom bG_requireRoom 1 none]
def B7 : List Cond := [Cond.instantiable "ImageGcds$Poly" 3, Cond.initialized "ImageGcds$Poly", Cond.code yP_init bP_init 3 none, Cond.methodLink "ImageGcds" 25 yP_init, Cond.instanceMethod yP_init, Cond.methodLink "ImageGcds" 28 yG_keep, Cond.instanceMethod yG_keep, Cond.selects "ImageGcds" yG_keep yG_keep, Cond.code yG_keep bG_keep 2 (some .int), Cond.methodLink "ImageGcdsLaw" 7 yG_poly, Cond.instanceMethod yG_poly, Cond.selects "ImageGcds" yG_poly yG_poly, Cond.code yG_poly bG_poly 1 (some .int), Cond.constantLong "ImageGcdsLaw" 87 (4294967295), Cond.methodLink "ImageGcdsLaw" 89 yL_term, Cond.static yL_term, Cond.initialized "ImageGcdsLaw", Cond.codeWith yL_term bL_term 9 (some .int) [(0, 22, 25, 19), (0, 22, 29, 21), (0, 22, 33, 23)], Cond.methodLink "ImageGcdsLaw" 92 yM_term, Cond.instanceMethod yM_term]
def B8 : List Cond := [Cond.selects "ImageGcdsModel" yM_term yM_term, Cond.code yM_term bM_term 9 (some .boolean), Cond.methodLink "ImageGcdsLaw" 84 yM_thrown, Cond.instanceMethod yM_thrown, Cond.selects "ImageGcdsModel" yM_thrown yM_thrown, Cond.code yM_thrown bM_thrown 1 (some .int), Cond.methodLink "ImageGcdsLaw" 93 yL_add, Cond.static yL_add, Cond.codeWith yL_add bL_add 5 (some .int) [(0, 10, 13, 19), (0, 10, 17, 13)], Cond.methodLink "ImageGcdsLaw" 96 yM_add, Cond.instanceMethod yM_add, Cond.selects "ImageGcdsModel" yM_add yM_add, Cond.code yM_add bM_add 4 (some .int), Cond.methodLink "ImageGcdsLaw" 97 yL_times, Cond.static yL_times, Cond.codeWith yL_times bL_times 5 (some .int) [(0, 10, 13, 19), (0, 10, 17, 13), (0, 10, 21, 21)], Cond.methodLink "ImageGcdsLaw" 99 yM_times, Cond.instanceMethod yM_times, Cond.selects "ImageGcdsModel" yM_times yM_times, Cond.code yM_times bM_times 3 (some .int)]
def B9 : List Cond := [Cond.methodLink "ImageGcdsLaw" 100 yL_over, Cond.static yL_over, Cond.codeWith yL_over bL_over 5 (some .int) [(0, 10, 13, 19), (0, 10, 17, 13)], Cond.methodLink "ImageGcdsLaw" 102 yM_over, Cond.instanceMethod yM_over, Cond.selects "ImageGcdsModel" yM_over yM_over, Cond.code yM_over bM_over 3 (some .int), Cond.methodLink "ImageGcdsLaw" 103 yL_gcd, Cond.static yL_gcd, Cond.codeWith yL_gcd bL_gcd 5 (some .int) [(0, 10, 13, 19), (0, 10, 17, 13)], Cond.methodLink "ImageGcdsLaw" 105 yM_gcd, Cond.instanceMethod yM_gcd, Cond.selects "ImageGcdsModel" yM_gcd yM_gcd, Cond.code yM_gcd bM_gcd 3 (some .int), Cond.methodLink "ImageGcdsLaw" 106 yL_resultant, Cond.static yL_resultant, Cond.codeWith yL_resultant bL_resultant 6 (some .int) [(0, 12, 15, 19), (0, 12, 19, 13), (0, 12, 23, 21)], Cond.methodLink "ImageGcdsLaw" 109 yM_resultant, Cond.instanceMethod yM_resultant, Cond.selects "ImageGcdsModel" yM_resultant yM_resultant]
def B10 : List Cond := [Cond.code yM_resultant bM_resultant 12 (some .int), Cond.methodLink "ImageGcdsLaw" 110 yL_slope, Cond.static yL_slope, Cond.codeWith yL_slope bL_slope 5 (some .int) [(0, 10, 13, 19), (0, 10, 17, 13), (0, 10, 21, 21)], Cond.methodLink "ImageGcdsLaw" 112 yM_slope, Cond.instanceMethod yM_slope, Cond.selects "ImageGcdsModel" yM_slope yM_slope, Cond.code yM_slope bM_slope 3 (some .int), Cond.methodLink "ImageGcdsLaw" 113 yL_content, Cond.static yL_content, Cond.codeWith yL_content bL_content 5 (some .int) [(0, 10, 13, 19), (0, 10, 17, 13), (0, 10, 21, 21)], Cond.methodLink "ImageGcdsLaw" 115 yM_content, Cond.instanceMethod yM_content, Cond.selects "ImageGcdsModel" yM_content yM_content, Cond.code yM_content bM_content 5 (some .int), Cond.methodLink "ImageGcdsLaw" 116 yL_part, Cond.static yL_part, Cond.codeWith yL_part bL_part 5 (some .int) [(0, 10, 13, 19), (0, 10, 17, 13), (0, 10, 21, 21)], Cond.methodLink "ImageGcdsLaw" 118 yM_part, Cond.instanceMethod yM_part]
def B11 : List Cond := [Cond.selects "ImageGcdsModel" yM_part yM_part, Cond.code yM_part bM_part 7 (some .int), Cond.methodLink "ImageGcdsLaw" 119 yL_image, Cond.static yL_image, Cond.codeWith yL_image bL_image 6 (some .int) [(0, 12, 15, 19), (0, 12, 19, 13), (0, 12, 23, 21)], Cond.methodLink "ImageGcdsLaw" 121 yM_image, Cond.instanceMethod yM_image, Cond.selects "ImageGcdsModel" yM_image yM_image, Cond.code yM_image bM_image 10 (some .int), Cond.methodLink "ImageGcdsLaw" 122 yL_equal, Cond.static yL_equal, Cond.codeWith yL_equal bL_equal 5 (some .int) [(0, 17, 20, 19)], Cond.methodLink "ImageGcdsLaw" 124 yM_equal, Cond.instanceMethod yM_equal, Cond.selects "ImageGcdsModel" yM_equal yM_equal, Cond.code yM_equal bM_equal 5 (some .boolean), Cond.methodLink "ImageGcdsLaw" 125 yL_terms, Cond.static yL_terms, Cond.codeWith yL_terms bL_terms 4 (some .int) [(0, 9, 12, 19)], Cond.methodLink "ImageGcdsLaw" 128 yM_terms]
def B12 : List Cond := [Cond.instanceMethod yM_terms, Cond.selects "ImageGcdsModel" yM_terms yM_terms, Cond.code yM_terms bM_terms 2 (some .int), Cond.methodLink "ImageGcdsLaw" 129 yL_at, Cond.static yL_at, Cond.codeWith yL_at bL_at 6 (some .int) [(0, 12, 15, 19), (0, 12, 19, 21)], Cond.methodLink "ImageGcdsLaw" 131 yM_at, Cond.instanceMethod yM_at, Cond.selects "ImageGcdsModel" yM_at yM_at, Cond.code yM_at bM_at 9 (some .int), Cond.methodLink "ImageGcdsLaw" 132 yL_degree, Cond.static yL_degree, Cond.codeWith yL_degree bL_degree 5 (some .int) [(0, 10, 13, 19), (0, 10, 17, 21)], Cond.methodLink "ImageGcdsLaw" 134 yM_degree, Cond.instanceMethod yM_degree, Cond.selects "ImageGcdsModel" yM_degree yM_degree, Cond.code yM_degree bM_degree 4 (some .int), Cond.methodLink "ImageGcdsLaw" 135 yG_count, Cond.instanceMethod yG_count, Cond.selects "ImageGcds" yG_count yG_count]
def B13 : List Cond := [Cond.code yG_count bG_count 1 (some .int), Cond.methodLink "ImageGcdsLaw" 138 yM_count, Cond.instanceMethod yM_count, Cond.selects "ImageGcdsModel" yM_count yM_count, Cond.code yM_count bM_count 1 (some .int), Cond.methodLink "ImageGcdsLaw" 80 yL_poly, Cond.static yL_poly, Cond.codeWith yL_poly bL_poly 3 (some .int) [(0, 8, 11, 13)], Cond.methodLink "ImageGcdsLaw" 83 yM_poly, Cond.instanceMethod yM_poly, Cond.selects "ImageGcdsModel" yM_poly yM_poly, Cond.code yM_poly bM_poly 1 (some .int), Cond.instantiable "ImageGcds" 4, Cond.instantiable "ImageGcdsModel" 25, Cond.classLink "ImageGcdsLaw" 8 "ImageGcds", Cond.methodLink "ImageGcdsLaw" 68 yL_cell, Cond.static yL_cell, Cond.code yL_cell bL_cell 2 (some .int), Cond.code yG_init bG_init 2 none, Cond.methodLink "ImageGcdsLaw" 74 yG_init]
def B14 : List Cond := [Cond.instanceMethod yG_init, Cond.classLink "ImageGcdsLaw" 77 "ImageGcdsModel", Cond.code yM_init bM_init 2 none, Cond.methodLink "ImageGcdsLaw" 79 yM_init, Cond.instanceMethod yM_init, Cond.arrayClass .long]
def thW : List Cond := (Bundle.ownAtoms "ImageGcds" 141 th_X th_N).filter goodWord
def W0 : List Cond := B0 ++ (B1 ++ (B2 ++ (B3 ++ (B4 ++ (B5 ++ (B6 ++ (B7 ++ (B8 ++ (B9 ++ (B10 ++ (B11 ++ (B12 ++ (B13 ++ (B14 ++ (wUG ++ (wUP ++ (wUM ++ (thW))))))))))))))))))
theorem k0 : Cond.classLink "ImageGcds" 137 th_X ∈ W0 := (List.mem_append_left _ (List.mem_of_getElem? (l := B0) (i := 0) rfl))
theorem k1 : Cond.initialized th_X ∈ W0 := (List.mem_append_left _ (List.mem_of_getElem? (l := B0) (i := 1) rfl))
theorem k2 : Cond.fieldLink "ImageGcds" 19 "ImageGcds" "made" "I" ∈ W0 := (List.mem_append_left _ (List.mem_of_getElem? (l := B0) (i := 2) rfl))
theorem k3 : Cond.methodLink "ImageGcds" 32 yG_held ∈ W0 := (List.mem_append_left _ (List.mem_of_getElem? (l := B0) (i := 3) rfl))
theorem k4 : Cond.instanceMethod yG_held ∈ W0 := (List.mem_append_left _ (List.mem_of_getElem? (l := B0) (i := 4) rfl))
theorem k5 : Cond.selects "ImageGcds" yG_held yG_held ∈ W0 := (List.mem_append_left _ (List.mem_of_getElem? (l := B0) (i := 5) rfl))
theorem k6 : Cond.initialized "ImageGcds" ∈ W0 := (List.mem_append_left _ (List.mem_of_getElem? (l := B0) (i := 6) rfl))
theorem k7 : Cond.code yG_held bG_held 2 (some (.object "ImageGcds$Poly")) ∈ W0 := (List.mem_append_left _ (List.mem_of_getElem? (l := B0) (i := 7) rfl))
theorem k8 : Cond.classLink "ImageGcdsLaw" 19 th_X ∈ W0 := (List.mem_append_left _ (List.mem_of_getElem? (l := B0) (i := 8) rfl))
theorem k9 : Cond.methodLink "ImageGcdsLaw" 15 yG_term ∈ W0 := (List.mem_append_left _ (List.mem_of_getElem? (l := B0) (i := 9) rfl))
theorem k10 : Cond.instanceMethod yG_term ∈ W0 := (List.mem_append_left _ (List.mem_of_getElem? (l := B0) (i := 10) rfl))
theorem k11 : Cond.selects "ImageGcds" yG_term yG_term ∈ W0 := (List.mem_append_left _ (List.mem_of_getElem? (l := B0) (i := 11) rfl))
theorem k12 : Cond.code yG_term bG_term 10 (some .boolean) ∈ W0 := (List.mem_append_left _ (List.mem_of_getElem? (l := B0) (i := 12) rfl))
theorem k13 : Cond.methodLink "ImageGcdsLaw" 25 yG_add ∈ W0 := (List.mem_append_left _ (List.mem_of_getElem? (l := B0) (i := 13) rfl))
theorem k14 : Cond.instanceMethod yG_add ∈ W0 := (List.mem_append_left _ (List.mem_of_getElem? (l := B0) (i := 14) rfl))
theorem k15 : Cond.selects "ImageGcds" yG_add yG_add ∈ W0 := (List.mem_append_left _ (List.mem_of_getElem? (l := B0) (i := 15) rfl))
theorem k16 : Cond.code yG_add bG_add 5 (some .int) ∈ W0 := (List.mem_append_left _ (List.mem_of_getElem? (l := B0) (i := 16) rfl))
theorem k17 : Cond.methodLink "ImageGcdsLaw" 29 yG_times ∈ W0 := (List.mem_append_left _ (List.mem_of_getElem? (l := B0) (i := 17) rfl))
theorem k18 : Cond.instanceMethod yG_times ∈ W0 := (List.mem_append_left _ (List.mem_of_getElem? (l := B0) (i := 18) rfl))
theorem k19 : Cond.selects "ImageGcds" yG_times yG_times ∈ W0 := (List.mem_append_left _ (List.mem_of_getElem? (l := B0) (i := 19) rfl))
theorem k20 : Cond.code yG_times bG_times 5 (some .int) ∈ W0 := (List.mem_append_right _ (List.mem_append_left _ (List.mem_of_getElem? (l := B1) (i := 0) rfl)))
theorem k21 : Cond.methodLink "ImageGcdsLaw" 32 yG_over ∈ W0 := (List.mem_append_right _ (List.mem_append_left _ (List.mem_of_getElem? (l := B1) (i := 1) rfl)))
theorem k22 : Cond.instanceMethod yG_over ∈ W0 := (List.mem_append_right _ (List.mem_append_left _ (List.mem_of_getElem? (l := B1) (i := 2) rfl)))
theorem k23 : Cond.selects "ImageGcds" yG_over yG_over ∈ W0 := (List.mem_append_right _ (List.mem_append_left _ (List.mem_of_getElem? (l := B1) (i := 3) rfl)))
theorem k24 : Cond.code yG_over bG_over 6 (some .int) ∈ W0 := (List.mem_append_right _ (List.mem_append_left _ (List.mem_of_getElem? (l := B1) (i := 4) rfl)))
theorem k25 : Cond.methodLink "ImageGcdsLaw" 35 yG_gcd ∈ W0 := (List.mem_append_right _ (List.mem_append_left _ (List.mem_of_getElem? (l := B1) (i := 5) rfl)))
theorem k26 : Cond.instanceMethod yG_gcd ∈ W0 := (List.mem_append_right _ (List.mem_append_left _ (List.mem_of_getElem? (l := B1) (i := 6) rfl)))
theorem k27 : Cond.selects "ImageGcds" yG_gcd yG_gcd ∈ W0 := (List.mem_append_right _ (List.mem_append_left _ (List.mem_of_getElem? (l := B1) (i := 7) rfl)))
theorem k28 : Cond.code yG_gcd bG_gcd 5 (some .int) ∈ W0 := (List.mem_append_right _ (List.mem_append_left _ (List.mem_of_getElem? (l := B1) (i := 8) rfl)))
theorem k29 : Cond.methodLink "ImageGcdsLaw" 38 yG_resultant ∈ W0 := (List.mem_append_right _ (List.mem_append_left _ (List.mem_of_getElem? (l := B1) (i := 9) rfl)))
theorem k30 : Cond.instanceMethod yG_resultant ∈ W0 := (List.mem_append_right _ (List.mem_append_left _ (List.mem_of_getElem? (l := B1) (i := 10) rfl)))
theorem k31 : Cond.selects "ImageGcds" yG_resultant yG_resultant ∈ W0 := (List.mem_append_right _ (List.mem_append_left _ (List.mem_of_getElem? (l := B1) (i := 11) rfl)))
theorem k32 : Cond.code yG_resultant bG_resultant 6 (some .int) ∈ W0 := (List.mem_append_right _ (List.mem_append_left _ (List.mem_of_getElem? (l := B1) (i := 12) rfl)))
theorem k33 : Cond.methodLink "ImageGcdsLaw" 42 yG_slope ∈ W0 := (List.mem_append_right _ (List.mem_append_left _ (List.mem_of_getElem? (l := B1) (i := 13) rfl)))
theorem k34 : Cond.instanceMethod yG_slope ∈ W0 := (List.mem_append_right _ (List.mem_append_left _ (List.mem_of_getElem? (l := B1) (i := 14) rfl)))
theorem k35 : Cond.selects "ImageGcds" yG_slope yG_slope ∈ W0 := (List.mem_append_right _ (List.mem_append_left _ (List.mem_of_getElem? (l := B1) (i := 15) rfl)))
theorem k36 : Cond.code yG_slope bG_slope 4 (some .int) ∈ W0 := (List.mem_append_right _ (List.mem_append_left _ (List.mem_of_getElem? (l := B1) (i := 16) rfl)))
theorem k37 : Cond.methodLink "ImageGcdsLaw" 45 yG_content ∈ W0 := (List.mem_append_right _ (List.mem_append_left _ (List.mem_of_getElem? (l := B1) (i := 17) rfl)))
theorem k38 : Cond.instanceMethod yG_content ∈ W0 := (List.mem_append_right _ (List.mem_append_left _ (List.mem_of_getElem? (l := B1) (i := 18) rfl)))
theorem k39 : Cond.selects "ImageGcds" yG_content yG_content ∈ W0 := (List.mem_append_right _ (List.mem_append_left _ (List.mem_of_getElem? (l := B1) (i := 19) rfl)))
theorem k40 : Cond.code yG_content bG_content 4 (some .int) ∈ W0 := (List.mem_append_right _ (List.mem_append_right _ (List.mem_append_left _ (List.mem_of_getElem? (l := B2) (i := 0) rfl))))
theorem k41 : Cond.methodLink "ImageGcdsLaw" 48 yG_part ∈ W0 := (List.mem_append_right _ (List.mem_append_right _ (List.mem_append_left _ (List.mem_of_getElem? (l := B2) (i := 1) rfl))))
theorem k42 : Cond.instanceMethod yG_part ∈ W0 := (List.mem_append_right _ (List.mem_append_right _ (List.mem_append_left _ (List.mem_of_getElem? (l := B2) (i := 2) rfl))))
theorem k43 : Cond.selects "ImageGcds" yG_part yG_part ∈ W0 := (List.mem_append_right _ (List.mem_append_right _ (List.mem_append_left _ (List.mem_of_getElem? (l := B2) (i := 3) rfl))))
theorem k44 : Cond.code yG_part bG_part 4 (some .int) ∈ W0 := (List.mem_append_right _ (List.mem_append_right _ (List.mem_append_left _ (List.mem_of_getElem? (l := B2) (i := 4) rfl))))
theorem k45 : Cond.methodLink "ImageGcdsLaw" 51 yG_image ∈ W0 := (List.mem_append_right _ (List.mem_append_right _ (List.mem_append_left _ (List.mem_of_getElem? (l := B2) (i := 5) rfl))))
theorem k46 : Cond.instanceMethod yG_image ∈ W0 := (List.mem_append_right _ (List.mem_append_right _ (List.mem_append_left _ (List.mem_of_getElem? (l := B2) (i := 6) rfl))))
theorem k47 : Cond.selects "ImageGcds" yG_image yG_image ∈ W0 := (List.mem_append_right _ (List.mem_append_right _ (List.mem_append_left _ (List.mem_of_getElem? (l := B2) (i := 7) rfl))))
theorem k48 : Cond.code yG_image bG_image 5 (some .int) ∈ W0 := (List.mem_append_right _ (List.mem_append_right _ (List.mem_append_left _ (List.mem_of_getElem? (l := B2) (i := 8) rfl))))
theorem k49 : Cond.methodLink "ImageGcdsLaw" 54 yG_equal ∈ W0 := (List.mem_append_right _ (List.mem_append_right _ (List.mem_append_left _ (List.mem_of_getElem? (l := B2) (i := 9) rfl))))
theorem k50 : Cond.instanceMethod yG_equal ∈ W0 := (List.mem_append_right _ (List.mem_append_right _ (List.mem_append_left _ (List.mem_of_getElem? (l := B2) (i := 10) rfl))))
theorem k51 : Cond.selects "ImageGcds" yG_equal yG_equal ∈ W0 := (List.mem_append_right _ (List.mem_append_right _ (List.mem_append_left _ (List.mem_of_getElem? (l := B2) (i := 11) rfl))))
theorem k52 : Cond.code yG_equal bG_equal 5 (some .boolean) ∈ W0 := (List.mem_append_right _ (List.mem_append_right _ (List.mem_append_left _ (List.mem_of_getElem? (l := B2) (i := 12) rfl))))
theorem k53 : Cond.methodLink "ImageGcdsLaw" 58 yG_terms ∈ W0 := (List.mem_append_right _ (List.mem_append_right _ (List.mem_append_left _ (List.mem_of_getElem? (l := B2) (i := 13) rfl))))
theorem k54 : Cond.instanceMethod yG_terms ∈ W0 := (List.mem_append_right _ (List.mem_append_right _ (List.mem_append_left _ (List.mem_of_getElem? (l := B2) (i := 14) rfl))))
theorem k55 : Cond.selects "ImageGcds" yG_terms yG_terms ∈ W0 := (List.mem_append_right _ (List.mem_append_right _ (List.mem_append_left _ (List.mem_of_getElem? (l := B2) (i := 15) rfl))))
theorem k56 : Cond.code yG_terms bG_terms 2 (some .int) ∈ W0 := (List.mem_append_right _ (List.mem_append_right _ (List.mem_append_left _ (List.mem_of_getElem? (l := B2) (i := 16) rfl))))
theorem k57 : Cond.methodLink "ImageGcdsLaw" 62 yG_at ∈ W0 := (List.mem_append_right _ (List.mem_append_right _ (List.mem_append_left _ (List.mem_of_getElem? (l := B2) (i := 17) rfl))))
theorem k58 : Cond.instanceMethod yG_at ∈ W0 := (List.mem_append_right _ (List.mem_append_right _ (List.mem_append_left _ (List.mem_of_getElem? (l := B2) (i := 18) rfl))))
theorem k59 : Cond.selects "ImageGcds" yG_at yG_at ∈ W0 := (List.mem_append_right _ (List.mem_append_right _ (List.mem_append_left _ (List.mem_of_getElem? (l := B2) (i := 19) rfl))))
theorem k60 : Cond.code yG_at bG_at 5 (some .int) ∈ W0 := (List.mem_append_right _ (List.mem_append_right _ (List.mem_append_right _ (List.mem_append_left _ (List.mem_of_getElem? (l := B3) (i := 0) rfl)))))
theorem k61 : Cond.methodLink "ImageGcdsLaw" 65 yG_degree ∈ W0 := (List.mem_append_right _ (List.mem_append_right _ (List.mem_append_right _ (List.mem_append_left _ (List.mem_of_getElem? (l := B3) (i := 1) rfl)))))
theorem k62 : Cond.instanceMethod yG_degree ∈ W0 := (List.mem_append_right _ (List.mem_append_right _ (List.mem_append_right _ (List.mem_append_left _ (List.mem_of_getElem? (l := B3) (i := 2) rfl)))))
theorem k63 : Cond.selects "ImageGcds" yG_degree yG_degree ∈ W0 := (List.mem_append_right _ (List.mem_append_right _ (List.mem_append_right _ (List.mem_append_left _ (List.mem_of_getElem? (l := B3) (i := 3) rfl)))))
theorem k64 : Cond.code yG_degree bG_degree 4 (some .int) ∈ W0 := (List.mem_append_right _ (List.mem_append_right _ (List.mem_append_right _ (List.mem_append_left _ (List.mem_of_getElem? (l := B3) (i := 4) rfl)))))
theorem k65 : Cond.constantLong "ImageGcdsModel" 72 (32003) ∈ W0 := (List.mem_append_right _ (List.mem_append_right _ (List.mem_append_right _ (List.mem_append_left _ (List.mem_of_getElem? (l := B3) (i := 5) rfl)))))
theorem k66 : Cond.fieldLink "ImageGcdsModel" 223 "ImageGcdsModel" "count" "I" ∈ W0 := (List.mem_append_right _ (List.mem_append_right _ (List.mem_append_right _ (List.mem_append_left _ (List.mem_of_getElem? (l := B3) (i := 6) rfl)))))
theorem k67 : Cond.fieldLink "ImageGcdsModel" 65 "ImageGcdsModel" "letters" "I" ∈ W0 := (List.mem_append_right _ (List.mem_append_right _ (List.mem_append_right _ (List.mem_append_left _ (List.mem_of_getElem? (l := B3) (i := 7) rfl)))))
theorem k68 : Cond.methodLink "ImageGcdsModel" 226 yM_isPoly ∈ W0 := (List.mem_append_right _ (List.mem_append_right _ (List.mem_append_right _ (List.mem_append_left _ (List.mem_of_getElem? (l := B3) (i := 8) rfl)))))
theorem k69 : Cond.instanceMethod yM_isPoly ∈ W0 := (List.mem_append_right _ (List.mem_append_right _ (List.mem_append_right _ (List.mem_append_left _ (List.mem_of_getElem? (l := B3) (i := 9) rfl)))))
theorem k70 : Cond.selects "ImageGcdsModel" yM_isPoly yM_isPoly ∈ W0 := (List.mem_append_right _ (List.mem_append_right _ (List.mem_append_right _ (List.mem_append_left _ (List.mem_of_getElem? (l := B3) (i := 10) rfl)))))
theorem k71 : Cond.initialized "ImageGcdsModel" ∈ W0 := (List.mem_append_right _ (List.mem_append_right _ (List.mem_append_right _ (List.mem_append_left _ (List.mem_of_getElem? (l := B3) (i := 11) rfl)))))
theorem k72 : Cond.code yM_isPoly bM_isPoly 2 (some .boolean) ∈ W0 := (List.mem_append_right _ (List.mem_append_right _ (List.mem_append_right _ (List.mem_append_left _ (List.mem_of_getElem? (l := B3) (i := 12) rfl)))))
theorem k73 : Cond.fieldLink "ImageGcdsModel" 69 "ImageGcdsModel" "thrown" "I" ∈ W0 := (List.mem_append_right _ (List.mem_append_right _ (List.mem_append_right _ (List.mem_append_left _ (List.mem_of_getElem? (l := B3) (i := 13) rfl)))))
theorem k74 : Cond.methodLink "ImageGcdsModel" 240 yM_number ∈ W0 := (List.mem_append_right _ (List.mem_append_right _ (List.mem_append_right _ (List.mem_append_left _ (List.mem_of_getElem? (l := B3) (i := 14) rfl)))))
theorem k75 : Cond.static yM_number ∈ W0 := (List.mem_append_right _ (List.mem_append_right _ (List.mem_append_right _ (List.mem_append_left _ (List.mem_of_getElem? (l := B3) (i := 15) rfl)))))
theorem k76 : Cond.code yM_number bM_number 3 (some .int) ∈ W0 := (List.mem_append_right _ (List.mem_append_right _ (List.mem_append_right _ (List.mem_append_left _ (List.mem_of_getElem? (l := B3) (i := 16) rfl)))))
theorem k77 : Cond.methodLink "ImageGcdsModel" 233 yM_fails ∈ W0 := (List.mem_append_right _ (List.mem_append_right _ (List.mem_append_right _ (List.mem_append_left _ (List.mem_of_getElem? (l := B3) (i := 17) rfl)))))
theorem k78 : Cond.instanceMethod yM_fails ∈ W0 := (List.mem_append_right _ (List.mem_append_right _ (List.mem_append_right _ (List.mem_append_left _ (List.mem_of_getElem? (l := B3) (i := 18) rfl)))))
theorem k79 : Cond.selects "ImageGcdsModel" yM_fails yM_fails ∈ W0 := (List.mem_append_right _ (List.mem_append_right _ (List.mem_append_right _ (List.mem_append_left _ (List.mem_of_getElem? (l := B3) (i := 19) rfl)))))
theorem k80 : Cond.code yM_fails bM_fails 4 (some .boolean) ∈ W0 := (List.mem_append_right _ (List.mem_append_right _ (List.mem_append_right _ (List.mem_append_right _ (List.mem_append_left _ (List.mem_of_getElem? (l := B4) (i := 0) rfl))))))
theorem k81 : Cond.methodLink "ImageGcdsModel" 244 yM_areNot ∈ W0 := (List.mem_append_right _ (List.mem_append_right _ (List.mem_append_right _ (List.mem_append_right _ (List.mem_append_left _ (List.mem_of_getElem? (l := B4) (i := 1) rfl))))))
theorem k82 : Cond.instanceMethod yM_areNot ∈ W0 := (List.mem_append_right _ (List.mem_append_right _ (List.mem_append_right _ (List.mem_append_right _ (List.mem_append_left _ (List.mem_of_getElem? (l := B4) (i := 2) rfl))))))
theorem k83 : Cond.selects "ImageGcdsModel" yM_areNot yM_areNot ∈ W0 := (List.mem_append_right _ (List.mem_append_right _ (List.mem_append_right _ (List.mem_append_right _ (List.mem_append_left _ (List.mem_of_getElem? (l := B4) (i := 3) rfl))))))
theorem k84 : Cond.code yM_areNot bM_areNot 3 (some .boolean) ∈ W0 := (List.mem_append_right _ (List.mem_append_right _ (List.mem_append_right _ (List.mem_append_right _ (List.mem_append_left _ (List.mem_of_getElem? (l := B4) (i := 4) rfl))))))
theorem k85 : Cond.methodLink "ImageGcdsModel" 229 yM_isFull ∈ W0 := (List.mem_append_right _ (List.mem_append_right _ (List.mem_append_right _ (List.mem_append_right _ (List.mem_append_left _ (List.mem_of_getElem? (l := B4) (i := 5) rfl))))))
theorem k86 : Cond.instanceMethod yM_isFull ∈ W0 := (List.mem_append_right _ (List.mem_append_right _ (List.mem_append_right _ (List.mem_append_right _ (List.mem_append_left _ (List.mem_of_getElem? (l := B4) (i := 6) rfl))))))
theorem k87 : Cond.selects "ImageGcdsModel" yM_isFull yM_isFull ∈ W0 := (List.mem_append_right _ (List.mem_append_right _ (List.mem_append_right _ (List.mem_append_right _ (List.mem_append_left _ (List.mem_of_getElem? (l := B4) (i := 7) rfl))))))
theorem k88 : Cond.code yM_isFull bM_isFull 1 (some .boolean) ∈ W0 := (List.mem_append_right _ (List.mem_append_right _ (List.mem_append_right _ (List.mem_append_right _ (List.mem_append_left _ (List.mem_of_getElem? (l := B4) (i := 8) rfl))))))
theorem k89 : Cond.methodLink "ImageGcdsModel" 268 yM_isLetter ∈ W0 := (List.mem_append_right _ (List.mem_append_right _ (List.mem_append_right _ (List.mem_append_right _ (List.mem_append_left _ (List.mem_of_getElem? (l := B4) (i := 9) rfl))))))
theorem k90 : Cond.instanceMethod yM_isLetter ∈ W0 := (List.mem_append_right _ (List.mem_append_right _ (List.mem_append_right _ (List.mem_append_right _ (List.mem_append_left _ (List.mem_of_getElem? (l := B4) (i := 10) rfl))))))
theorem k91 : Cond.selects "ImageGcdsModel" yM_isLetter yM_isLetter ∈ W0 := (List.mem_append_right _ (List.mem_append_right _ (List.mem_append_right _ (List.mem_append_right _ (List.mem_append_left _ (List.mem_of_getElem? (l := B4) (i := 11) rfl))))))
theorem k92 : Cond.code yM_isLetter bM_isLetter 2 (some .boolean) ∈ W0 := (List.mem_append_right _ (List.mem_append_right _ (List.mem_append_right _ (List.mem_append_right _ (List.mem_append_left _ (List.mem_of_getElem? (l := B4) (i := 12) rfl))))))
theorem k93 : Cond.methodLink "ImageGcds" 1 Lib.objectInit ∈ W0 := (List.mem_append_right _ (List.mem_append_right _ (List.mem_append_right _ (List.mem_append_right _ (List.mem_append_left _ (List.mem_of_getElem? (l := B4) (i := 13) rfl))))))
theorem k94 : Cond.instanceMethod Lib.objectInit ∈ W0 := (List.mem_append_right _ (List.mem_append_right _ (List.mem_append_right _ (List.mem_append_right _ (List.mem_append_left _ (List.mem_of_getElem? (l := B4) (i := 14) rfl))))))
theorem k95 : Cond.code Lib.objectInit ⟨#[0xb1]⟩ 1 none ∈ W0 := (List.mem_append_right _ (List.mem_append_right _ (List.mem_append_right _ (List.mem_append_right _ (List.mem_append_left _ (List.mem_of_getElem? (l := B4) (i := 15) rfl))))))
theorem k96 : Cond.fieldLink "ImageGcds" 9 "ImageGcds" "letters" "I" ∈ W0 := (List.mem_append_right _ (List.mem_append_right _ (List.mem_append_right _ (List.mem_append_right _ (List.mem_append_left _ (List.mem_of_getElem? (l := B4) (i := 16) rfl))))))
theorem k97 : Cond.classLink "ImageGcds" 13 "ImageGcds$Poly" ∈ W0 := (List.mem_append_right _ (List.mem_append_right _ (List.mem_append_right _ (List.mem_append_right _ (List.mem_append_left _ (List.mem_of_getElem? (l := B4) (i := 17) rfl))))))
theorem k98 : Cond.fieldLink "ImageGcds" 15 "ImageGcds" "polys" "[LImageGcds$Poly;" ∈ W0 := (List.mem_append_right _ (List.mem_append_right _ (List.mem_append_right _ (List.mem_append_right _ (List.mem_append_left _ (List.mem_of_getElem? (l := B4) (i := 18) rfl))))))
theorem k99 : Cond.methodLink "ImageGcdsModel" 1 Lib.objectInit ∈ W0 := (List.mem_append_right _ (List.mem_append_right _ (List.mem_append_right _ (List.mem_append_right _ (List.mem_append_left _ (List.mem_of_getElem? (l := B4) (i := 19) rfl))))))
theorem k100 : Cond.constant "ImageGcdsModel" 7 (290816) ∈ W0 := (List.mem_append_right _ (List.mem_append_right _ (List.mem_append_right _ (List.mem_append_right _ (List.mem_append_right _ (List.mem_append_left _ (List.mem_of_getElem? (l := B5) (i := 0) rfl)))))))
theorem k101 : Cond.arrayClass .int ∈ W0 := (List.mem_append_right _ (List.mem_append_right _ (List.mem_append_right _ (List.mem_append_right _ (List.mem_append_right _ (List.mem_append_left _ (List.mem_of_getElem? (l := B5) (i := 1) rfl)))))))
theorem k102 : Cond.fieldLink "ImageGcdsModel" 8 "ImageGcdsModel" "n" "[I" ∈ W0 := (List.mem_append_right _ (List.mem_append_right _ (List.mem_append_right _ (List.mem_append_right _ (List.mem_append_right _ (List.mem_append_left _ (List.mem_of_getElem? (l := B5) (i := 2) rfl)))))))
theorem k103 : Cond.fieldLink "ImageGcdsModel" 14 "ImageGcdsModel" "two" "[I" ∈ W0 := (List.mem_append_right _ (List.mem_append_right _ (List.mem_append_right _ (List.mem_append_right _ (List.mem_append_right _ (List.mem_append_left _ (List.mem_of_getElem? (l := B5) (i := 3) rfl)))))))
theorem k104 : Cond.fieldLink "ImageGcdsModel" 17 "ImageGcdsModel" "a" "[I" ∈ W0 := (List.mem_append_right _ (List.mem_append_right _ (List.mem_append_right _ (List.mem_append_right _ (List.mem_append_right _ (List.mem_append_left _ (List.mem_of_getElem? (l := B5) (i := 4) rfl)))))))
theorem k105 : Cond.fieldLink "ImageGcdsModel" 20 "ImageGcdsModel" "b" "[I" ∈ W0 := (List.mem_append_right _ (List.mem_append_right _ (List.mem_append_right _ (List.mem_append_right _ (List.mem_append_right _ (List.mem_append_left _ (List.mem_of_getElem? (l := B5) (i := 5) rfl)))))))
theorem k106 : Cond.fieldLink "ImageGcdsModel" 23 "ImageGcdsModel" "c" "[I" ∈ W0 := (List.mem_append_right _ (List.mem_append_right _ (List.mem_append_right _ (List.mem_append_right _ (List.mem_append_right _ (List.mem_append_left _ (List.mem_of_getElem? (l := B5) (i := 6) rfl)))))))
theorem k107 : Cond.fieldLink "ImageGcdsModel" 26 "ImageGcdsModel" "point" "[I" ∈ W0 := (List.mem_append_right _ (List.mem_append_right _ (List.mem_append_right _ (List.mem_append_right _ (List.mem_append_right _ (List.mem_append_left _ (List.mem_of_getElem? (l := B5) (i := 7) rfl)))))))
theorem k108 : Cond.fieldLink "ImageGcdsModel" 29 "ImageGcdsModel" "given" "[I" ∈ W0 := (List.mem_append_right _ (List.mem_append_right _ (List.mem_append_right _ (List.mem_append_right _ (List.mem_append_right _ (List.mem_append_left _ (List.mem_of_getElem? (l := B5) (i := 8) rfl)))))))
theorem k109 : Cond.fieldLink "ImageGcdsModel" 32 "ImageGcdsModel" "whole" "[I" ∈ W0 := (List.mem_append_right _ (List.mem_append_right _ (List.mem_append_right _ (List.mem_append_right _ (List.mem_append_right _ (List.mem_append_left _ (List.mem_of_getElem? (l := B5) (i := 9) rfl)))))))
theorem k110 : Cond.fieldLink "ImageGcdsModel" 35 "ImageGcdsModel" "pointsTwo" "[I" ∈ W0 := (List.mem_append_right _ (List.mem_append_right _ (List.mem_append_right _ (List.mem_append_right _ (List.mem_append_right _ (List.mem_append_left _ (List.mem_of_getElem? (l := B5) (i := 10) rfl)))))))
theorem k111 : Cond.fieldLink "ImageGcdsModel" 38 "ImageGcdsModel" "valuesTwo" "[I" ∈ W0 := (List.mem_append_right _ (List.mem_append_right _ (List.mem_append_right _ (List.mem_append_right _ (List.mem_append_right _ (List.mem_append_left _ (List.mem_of_getElem? (l := B5) (i := 11) rfl)))))))
theorem k112 : Cond.fieldLink "ImageGcdsModel" 41 "ImageGcdsModel" "pointsY" "[I" ∈ W0 := (List.mem_append_right _ (List.mem_append_right _ (List.mem_append_right _ (List.mem_append_right _ (List.mem_append_right _ (List.mem_append_left _ (List.mem_of_getElem? (l := B5) (i := 12) rfl)))))))
theorem k113 : Cond.fieldLink "ImageGcdsModel" 44 "ImageGcdsModel" "valuesY" "[I" ∈ W0 := (List.mem_append_right _ (List.mem_append_right _ (List.mem_append_right _ (List.mem_append_right _ (List.mem_append_right _ (List.mem_append_left _ (List.mem_of_getElem? (l := B5) (i := 13) rfl)))))))
theorem k114 : Cond.fieldLink "ImageGcdsModel" 47 "ImageGcdsModel" "pointsZ" "[I" ∈ W0 := (List.mem_append_right _ (List.mem_append_right _ (List.mem_append_right _ (List.mem_append_right _ (List.mem_append_right _ (List.mem_append_left _ (List.mem_of_getElem? (l := B5) (i := 14) rfl)))))))
theorem k115 : Cond.fieldLink "ImageGcdsModel" 50 "ImageGcdsModel" "valuesZ" "[I" ∈ W0 := (List.mem_append_right _ (List.mem_append_right _ (List.mem_append_right _ (List.mem_append_right _ (List.mem_append_right _ (List.mem_append_left _ (List.mem_of_getElem? (l := B5) (i := 15) rfl)))))))
theorem k116 : Cond.fieldLink "ImageGcdsModel" 53 "ImageGcdsModel" "grid" "[I" ∈ W0 := (List.mem_append_right _ (List.mem_append_right _ (List.mem_append_right _ (List.mem_append_right _ (List.mem_append_right _ (List.mem_append_left _ (List.mem_of_getElem? (l := B5) (i := 16) rfl)))))))
theorem k117 : Cond.fieldLink "ImageGcdsModel" 56 "ImageGcdsModel" "planeA" "[I" ∈ W0 := (List.mem_append_right _ (List.mem_append_right _ (List.mem_append_right _ (List.mem_append_right _ (List.mem_append_right _ (List.mem_append_left _ (List.mem_of_getElem? (l := B5) (i := 17) rfl)))))))
theorem k118 : Cond.fieldLink "ImageGcdsModel" 59 "ImageGcdsModel" "planeB" "[I" ∈ W0 := (List.mem_append_right _ (List.mem_append_right _ (List.mem_append_right _ (List.mem_append_right _ (List.mem_append_right _ (List.mem_append_left _ (List.mem_of_getElem? (l := B5) (i := 18) rfl)))))))
theorem k119 : Cond.fieldLink "ImageGcdsModel" 62 "ImageGcdsModel" "matrix" "[I" ∈ W0 := (List.mem_append_right _ (List.mem_append_right _ (List.mem_append_right _ (List.mem_append_right _ (List.mem_append_right _ (List.mem_append_left _ (List.mem_of_getElem? (l := B5) (i := 19) rfl)))))))
theorem k120 : Cond.methodLink "ImageGcds$Poly" 3 Lib.objectInit ∈ W0 := (List.mem_append_right _ (List.mem_append_right _ (List.mem_append_right _ (List.mem_append_right _ (List.mem_append_right _ (List.mem_append_right _ (List.mem_append_left _ (List.mem_of_getElem? (l := B6) (i := 0) rfl))))))))
theorem k121 : Cond.fieldLink "ImageGcds$Poly" 9 "ImageGcds$Poly" "size" "I" ∈ W0 := (List.mem_append_right _ (List.mem_append_right _ (List.mem_append_right _ (List.mem_append_right _ (List.mem_append_right _ (List.mem_append_right _ (List.mem_append_left _ (List.mem_of_getElem? (l := B6) (i := 1) rfl))))))))
theorem k122 : Cond.fieldLink "ImageGcds$Poly" 15 "ImageGcds$Poly" "keys" "[I" ∈ W0 := (List.mem_append_right _ (List.mem_append_right _ (List.mem_append_right _ (List.mem_append_right _ (List.mem_append_right _ (List.mem_append_right _ (List.mem_append_left _ (List.mem_of_getElem? (l := B6) (i := 2) rfl))))))))
theorem k123 : Cond.fieldLink "ImageGcds$Poly" 19 "ImageGcds$Poly" "numbers" "[I" ∈ W0 := (List.mem_append_right _ (List.mem_append_right _ (List.mem_append_right _ (List.mem_append_right _ (List.mem_append_right _ (List.mem_append_right _ (List.mem_append_left _ (List.mem_of_getElem? (l := B6) (i := 3) rfl))))))))
theorem k124 : Cond.methodLink "ImageGcdsModel" 99 yM_copy ∈ W0 := (List.mem_append_right _ (List.mem_append_right _ (List.mem_append_right _ (List.mem_append_right _ (List.mem_append_right _ (List.mem_append_right _ (List.mem_append_left _ (List.mem_of_getElem? (l := B6) (i := 4) rfl))))))))
theorem k125 : Cond.instanceMethod yM_copy ∈ W0 := (List.mem_append_right _ (List.mem_append_right _ (List.mem_append_right _ (List.mem_append_right _ (List.mem_append_right _ (List.mem_append_right _ (List.mem_append_left _ (List.mem_of_getElem? (l := B6) (i := 5) rfl))))))))
theorem k126 : Cond.selects "ImageGcdsModel" yM_copy yM_copy ∈ W0 := (List.mem_append_right _ (List.mem_append_right _ (List.mem_append_right _ (List.mem_append_right _ (List.mem_append_right _ (List.mem_append_right _ (List.mem_append_left _ (List.mem_of_getElem? (l := B6) (i := 6) rfl))))))))
theorem k127 : Cond.code yM_copy bM_copy 4 none ∈ W0 := (List.mem_append_right _ (List.mem_append_right _ (List.mem_append_right _ (List.mem_append_right _ (List.mem_append_right _ (List.mem_append_right _ (List.mem_append_left _ (List.mem_of_getElem? (l := B6) (i := 7) rfl))))))))
theorem k128 : Cond.methodLink "ImageGcdsModel" 95 yM_clear ∈ W0 := (List.mem_append_right _ (List.mem_append_right _ (List.mem_append_right _ (List.mem_append_right _ (List.mem_append_right _ (List.mem_append_right _ (List.mem_append_left _ (List.mem_of_getElem? (l := B6) (i := 8) rfl))))))))
theorem k129 : Cond.instanceMethod yM_clear ∈ W0 := (List.mem_append_right _ (List.mem_append_right _ (List.mem_append_right _ (List.mem_append_right _ (List.mem_append_right _ (List.mem_append_right _ (List.mem_append_left _ (List.mem_of_getElem? (l := B6) (i := 9) rfl))))))))
theorem k130 : Cond.selects "ImageGcdsModel" yM_clear yM_clear ∈ W0 := (List.mem_append_right _ (List.mem_append_right _ (List.mem_append_right _ (List.mem_append_right _ (List.mem_append_right _ (List.mem_append_right _ (List.mem_append_left _ (List.mem_of_getElem? (l := B6) (i := 10) rfl))))))))
theorem k131 : Cond.code yM_clear bM_clear 3 none ∈ W0 := (List.mem_append_right _ (List.mem_append_right _ (List.mem_append_right _ (List.mem_append_right _ (List.mem_append_right _ (List.mem_append_right _ (List.mem_append_left _ (List.mem_of_getElem? (l := B6) (i := 11) rfl))))))))
theorem k132 : Cond.methodLink "ImageGcdsModel" 237 yM_made ∈ W0 := (List.mem_append_right _ (List.mem_append_right _ (List.mem_append_right _ (List.mem_append_right _ (List.mem_append_right _ (List.mem_append_right _ (List.mem_append_left _ (List.mem_of_getElem? (l := B6) (i := 12) rfl))))))))
theorem k133 : Cond.instanceMethod yM_made ∈ W0 := (List.mem_append_right _ (List.mem_append_right _ (List.mem_append_right _ (List.mem_append_right _ (List.mem_append_right _ (List.mem_append_right _ (List.mem_append_left _ (List.mem_of_getElem? (l := B6) (i := 13) rfl))))))))
theorem k134 : Cond.selects "ImageGcdsModel" yM_made yM_made ∈ W0 := (List.mem_append_right _ (List.mem_append_right _ (List.mem_append_right _ (List.mem_append_right _ (List.mem_append_right _ (List.mem_append_right _ (List.mem_append_left _ (List.mem_of_getElem? (l := B6) (i := 14) rfl))))))))
theorem k135 : Cond.code yM_made bM_made 2 (some .int) ∈ W0 := (List.mem_append_right _ (List.mem_append_right _ (List.mem_append_right _ (List.mem_append_right _ (List.mem_append_right _ (List.mem_append_right _ (List.mem_append_left _ (List.mem_of_getElem? (l := B6) (i := 15) rfl))))))))
theorem k136 : Cond.methodLink "ImageGcds" 22 yG_requireRoom ∈ W0 := (List.mem_append_right _ (List.mem_append_right _ (List.mem_append_right _ (List.mem_append_right _ (List.mem_append_right _ (List.mem_append_right _ (List.mem_append_left _ (List.mem_of_getElem? (l := B6) (i := 16) rfl))))))))
theorem k137 : Cond.instanceMethod yG_requireRoom ∈ W0 := (List.mem_append_right _ (List.mem_append_right _ (List.mem_append_right _ (List.mem_append_right _ (List.mem_append_right _ (List.mem_append_right _ (List.mem_append_left _ (List.mem_of_getElem? (l := B6) (i := 17) rfl))))))))
theorem k138 : Cond.selects "ImageGcds" yG_requireRoom yG_requireRoom ∈ W0 := (List.mem_append_right _ (List.mem_append_right _ (List.mem_append_right _ (List.mem_append_right _ (List.mem_append_right _ (List.mem_append_right _ (List.mem_append_left _ (List.mem_of_getElem? (l := B6) (i := 18) rfl))))))))
theorem k139 : Cond.code yG_requireRoom bG_requireRoom 1 none ∈ W0 := (List.mem_append_right _ (List.mem_append_right _ (List.mem_append_right _ (List.mem_append_right _ (List.mem_append_right _ (List.mem_append_right _ (List.mem_append_left _ (List.mem_of_getElem? (l := B6) (i := 19) rfl))))))))
theorem k140 : Cond.instantiable "ImageGcds$Poly" 3 ∈ W0 := (List.mem_append_right _ (List.mem_append_right _ (List.mem_append_right _ (List.mem_append_right _ (List.mem_append_right _ (List.mem_append_right _ (List.mem_append_right _ (List.mem_append_left _ (List.mem_of_getElem? (l := B7) (i := 0) rfl)))))))))
theorem k141 : Cond.initialized "ImageGcds$Poly" ∈ W0 := (List.mem_append_right _ (List.mem_append_right _ (List.mem_append_right _ (List.mem_append_right _ (List.mem_append_right _ (List.mem_append_right _ (List.mem_append_right _ (List.mem_append_left _ (List.mem_of_getElem? (l := B7) (i := 1) rfl)))))))))
theorem k142 : Cond.code yP_init bP_init 3 none ∈ W0 := (List.mem_append_right _ (List.mem_append_right _ (List.mem_append_right _ (List.mem_append_right _ (List.mem_append_right _ (List.mem_append_right _ (List.mem_append_right _ (List.mem_append_left _ (List.mem_of_getElem? (l := B7) (i := 2) rfl)))))))))
theorem k143 : Cond.methodLink "ImageGcds" 25 yP_init ∈ W0 := (List.mem_append_right _ (List.mem_append_right _ (List.mem_append_right _ (List.mem_append_right _ (List.mem_append_right _ (List.mem_append_right _ (List.mem_append_right _ (List.mem_append_left _ (List.mem_of_getElem? (l := B7) (i := 3) rfl)))))))))
theorem k144 : Cond.instanceMethod yP_init ∈ W0 := (List.mem_append_right _ (List.mem_append_right _ (List.mem_append_right _ (List.mem_append_right _ (List.mem_append_right _ (List.mem_append_right _ (List.mem_append_right _ (List.mem_append_left _ (List.mem_of_getElem? (l := B7) (i := 4) rfl)))))))))
theorem k145 : Cond.methodLink "ImageGcds" 28 yG_keep ∈ W0 := (List.mem_append_right _ (List.mem_append_right _ (List.mem_append_right _ (List.mem_append_right _ (List.mem_append_right _ (List.mem_append_right _ (List.mem_append_right _ (List.mem_append_left _ (List.mem_of_getElem? (l := B7) (i := 5) rfl)))))))))
theorem k146 : Cond.instanceMethod yG_keep ∈ W0 := (List.mem_append_right _ (List.mem_append_right _ (List.mem_append_right _ (List.mem_append_right _ (List.mem_append_right _ (List.mem_append_right _ (List.mem_append_right _ (List.mem_append_left _ (List.mem_of_getElem? (l := B7) (i := 6) rfl)))))))))
theorem k147 : Cond.selects "ImageGcds" yG_keep yG_keep ∈ W0 := (List.mem_append_right _ (List.mem_append_right _ (List.mem_append_right _ (List.mem_append_right _ (List.mem_append_right _ (List.mem_append_right _ (List.mem_append_right _ (List.mem_append_left _ (List.mem_of_getElem? (l := B7) (i := 7) rfl)))))))))
theorem k148 : Cond.code yG_keep bG_keep 2 (some .int) ∈ W0 := (List.mem_append_right _ (List.mem_append_right _ (List.mem_append_right _ (List.mem_append_right _ (List.mem_append_right _ (List.mem_append_right _ (List.mem_append_right _ (List.mem_append_left _ (List.mem_of_getElem? (l := B7) (i := 8) rfl)))))))))
theorem k149 : Cond.methodLink "ImageGcdsLaw" 7 yG_poly ∈ W0 := (List.mem_append_right _ (List.mem_append_right _ (List.mem_append_right _ (List.mem_append_right _ (List.mem_append_right _ (List.mem_append_right _ (List.mem_append_right _ (List.mem_append_left _ (List.mem_of_getElem? (l := B7) (i := 9) rfl)))))))))
theorem k150 : Cond.instanceMethod yG_poly ∈ W0 := (List.mem_append_right _ (List.mem_append_right _ (List.mem_append_right _ (List.mem_append_right _ (List.mem_append_right _ (List.mem_append_right _ (List.mem_append_right _ (List.mem_append_left _ (List.mem_of_getElem? (l := B7) (i := 10) rfl)))))))))
theorem k151 : Cond.selects "ImageGcds" yG_poly yG_poly ∈ W0 := (List.mem_append_right _ (List.mem_append_right _ (List.mem_append_right _ (List.mem_append_right _ (List.mem_append_right _ (List.mem_append_right _ (List.mem_append_right _ (List.mem_append_left _ (List.mem_of_getElem? (l := B7) (i := 11) rfl)))))))))
theorem k152 : Cond.code yG_poly bG_poly 1 (some .int) ∈ W0 := (List.mem_append_right _ (List.mem_append_right _ (List.mem_append_right _ (List.mem_append_right _ (List.mem_append_right _ (List.mem_append_right _ (List.mem_append_right _ (List.mem_append_left _ (List.mem_of_getElem? (l := B7) (i := 12) rfl)))))))))
theorem k153 : Cond.constantLong "ImageGcdsLaw" 87 (4294967295) ∈ W0 := (List.mem_append_right _ (List.mem_append_right _ (List.mem_append_right _ (List.mem_append_right _ (List.mem_append_right _ (List.mem_append_right _ (List.mem_append_right _ (List.mem_append_left _ (List.mem_of_getElem? (l := B7) (i := 13) rfl)))))))))
theorem k154 : Cond.methodLink "ImageGcdsLaw" 89 yL_term ∈ W0 := (List.mem_append_right _ (List.mem_append_right _ (List.mem_append_right _ (List.mem_append_right _ (List.mem_append_right _ (List.mem_append_right _ (List.mem_append_right _ (List.mem_append_left _ (List.mem_of_getElem? (l := B7) (i := 14) rfl)))))))))
theorem k155 : Cond.static yL_term ∈ W0 := (List.mem_append_right _ (List.mem_append_right _ (List.mem_append_right _ (List.mem_append_right _ (List.mem_append_right _ (List.mem_append_right _ (List.mem_append_right _ (List.mem_append_left _ (List.mem_of_getElem? (l := B7) (i := 15) rfl)))))))))
theorem k156 : Cond.initialized "ImageGcdsLaw" ∈ W0 := (List.mem_append_right _ (List.mem_append_right _ (List.mem_append_right _ (List.mem_append_right _ (List.mem_append_right _ (List.mem_append_right _ (List.mem_append_right _ (List.mem_append_left _ (List.mem_of_getElem? (l := B7) (i := 16) rfl)))))))))
theorem k157 : Cond.codeWith yL_term bL_term 9 (some .int) [(0, 22, 25, 19), (0, 22, 29, 21), (0, 22, 33, 23)] ∈ W0 := (List.mem_append_right _ (List.mem_append_right _ (List.mem_append_right _ (List.mem_append_right _ (List.mem_append_right _ (List.mem_append_right _ (List.mem_append_right _ (List.mem_append_left _ (List.mem_of_getElem? (l := B7) (i := 17) rfl)))))))))
theorem k158 : Cond.methodLink "ImageGcdsLaw" 92 yM_term ∈ W0 := (List.mem_append_right _ (List.mem_append_right _ (List.mem_append_right _ (List.mem_append_right _ (List.mem_append_right _ (List.mem_append_right _ (List.mem_append_right _ (List.mem_append_left _ (List.mem_of_getElem? (l := B7) (i := 18) rfl)))))))))
theorem k159 : Cond.instanceMethod yM_term ∈ W0 := (List.mem_append_right _ (List.mem_append_right _ (List.mem_append_right _ (List.mem_append_right _ (List.mem_append_right _ (List.mem_append_right _ (List.mem_append_right _ (List.mem_append_left _ (List.mem_of_getElem? (l := B7) (i := 19) rfl)))))))))
theorem k160 : Cond.selects "ImageGcdsModel" yM_term yM_term ∈ W0 := (List.mem_append_right _ (List.mem_append_right _ (List.mem_append_right _ (List.mem_append_right _ (List.mem_append_right _ (List.mem_append_right _ (List.mem_append_right _ (List.mem_append_right _ (List.mem_append_left _ (List.mem_of_getElem? (l := B8) (i := 0) rfl))))))))))
theorem k161 : Cond.code yM_term bM_term 9 (some .boolean) ∈ W0 := (List.mem_append_right _ (List.mem_append_right _ (List.mem_append_right _ (List.mem_append_right _ (List.mem_append_right _ (List.mem_append_right _ (List.mem_append_right _ (List.mem_append_right _ (List.mem_append_left _ (List.mem_of_getElem? (l := B8) (i := 1) rfl))))))))))
theorem k162 : Cond.methodLink "ImageGcdsLaw" 84 yM_thrown ∈ W0 := (List.mem_append_right _ (List.mem_append_right _ (List.mem_append_right _ (List.mem_append_right _ (List.mem_append_right _ (List.mem_append_right _ (List.mem_append_right _ (List.mem_append_right _ (List.mem_append_left _ (List.mem_of_getElem? (l := B8) (i := 2) rfl))))))))))
theorem k163 : Cond.instanceMethod yM_thrown ∈ W0 := (List.mem_append_right _ (List.mem_append_right _ (List.mem_append_right _ (List.mem_append_right _ (List.mem_append_right _ (List.mem_append_right _ (List.mem_append_right _ (List.mem_append_right _ (List.mem_append_left _ (List.mem_of_getElem? (l := B8) (i := 3) rfl))))))))))
theorem k164 : Cond.selects "ImageGcdsModel" yM_thrown yM_thrown ∈ W0 := (List.mem_append_right _ (List.mem_append_right _ (List.mem_append_right _ (List.mem_append_right _ (List.mem_append_right _ (List.mem_append_right _ (List.mem_append_right _ (List.mem_append_right _ (List.mem_append_left _ (List.mem_of_getElem? (l := B8) (i := 4) rfl))))))))))
theorem k165 : Cond.code yM_thrown bM_thrown 1 (some .int) ∈ W0 := (List.mem_append_right _ (List.mem_append_right _ (List.mem_append_right _ (List.mem_append_right _ (List.mem_append_right _ (List.mem_append_right _ (List.mem_append_right _ (List.mem_append_right _ (List.mem_append_left _ (List.mem_of_getElem? (l := B8) (i := 5) rfl))))))))))
theorem k166 : Cond.methodLink "ImageGcdsLaw" 93 yL_add ∈ W0 := (List.mem_append_right _ (List.mem_append_right _ (List.mem_append_right _ (List.mem_append_right _ (List.mem_append_right _ (List.mem_append_right _ (List.mem_append_right _ (List.mem_append_right _ (List.mem_append_left _ (List.mem_of_getElem? (l := B8) (i := 6) rfl))))))))))
theorem k167 : Cond.static yL_add ∈ W0 := (List.mem_append_right _ (List.mem_append_right _ (List.mem_append_right _ (List.mem_append_right _ (List.mem_append_right _ (List.mem_append_right _ (List.mem_append_right _ (List.mem_append_right _ (List.mem_append_left _ (List.mem_of_getElem? (l := B8) (i := 7) rfl))))))))))
theorem k168 : Cond.codeWith yL_add bL_add 5 (some .int) [(0, 10, 13, 19), (0, 10, 17, 13)] ∈ W0 := (List.mem_append_right _ (List.mem_append_right _ (List.mem_append_right _ (List.mem_append_right _ (List.mem_append_right _ (List.mem_append_right _ (List.mem_append_right _ (List.mem_append_right _ (List.mem_append_left _ (List.mem_of_getElem? (l := B8) (i := 8) rfl))))))))))
theorem k169 : Cond.methodLink "ImageGcdsLaw" 96 yM_add ∈ W0 := (List.mem_append_right _ (List.mem_append_right _ (List.mem_append_right _ (List.mem_append_right _ (List.mem_append_right _ (List.mem_append_right _ (List.mem_append_right _ (List.mem_append_right _ (List.mem_append_left _ (List.mem_of_getElem? (l := B8) (i := 9) rfl))))))))))
theorem k170 : Cond.instanceMethod yM_add ∈ W0 := (List.mem_append_right _ (List.mem_append_right _ (List.mem_append_right _ (List.mem_append_right _ (List.mem_append_right _ (List.mem_append_right _ (List.mem_append_right _ (List.mem_append_right _ (List.mem_append_left _ (List.mem_of_getElem? (l := B8) (i := 10) rfl))))))))))
theorem k171 : Cond.selects "ImageGcdsModel" yM_add yM_add ∈ W0 := (List.mem_append_right _ (List.mem_append_right _ (List.mem_append_right _ (List.mem_append_right _ (List.mem_append_right _ (List.mem_append_right _ (List.mem_append_right _ (List.mem_append_right _ (List.mem_append_left _ (List.mem_of_getElem? (l := B8) (i := 11) rfl))))))))))
theorem k172 : Cond.code yM_add bM_add 4 (some .int) ∈ W0 := (List.mem_append_right _ (List.mem_append_right _ (List.mem_append_right _ (List.mem_append_right _ (List.mem_append_right _ (List.mem_append_right _ (List.mem_append_right _ (List.mem_append_right _ (List.mem_append_left _ (List.mem_of_getElem? (l := B8) (i := 12) rfl))))))))))
theorem k173 : Cond.methodLink "ImageGcdsLaw" 97 yL_times ∈ W0 := (List.mem_append_right _ (List.mem_append_right _ (List.mem_append_right _ (List.mem_append_right _ (List.mem_append_right _ (List.mem_append_right _ (List.mem_append_right _ (List.mem_append_right _ (List.mem_append_left _ (List.mem_of_getElem? (l := B8) (i := 13) rfl))))))))))
theorem k174 : Cond.static yL_times ∈ W0 := (List.mem_append_right _ (List.mem_append_right _ (List.mem_append_right _ (List.mem_append_right _ (List.mem_append_right _ (List.mem_append_right _ (List.mem_append_right _ (List.mem_append_right _ (List.mem_append_left _ (List.mem_of_getElem? (l := B8) (i := 14) rfl))))))))))
theorem k175 : Cond.codeWith yL_times bL_times 5 (some .int) [(0, 10, 13, 19), (0, 10, 17, 13), (0, 10, 21, 21)] ∈ W0 := (List.mem_append_right _ (List.mem_append_right _ (List.mem_append_right _ (List.mem_append_right _ (List.mem_append_right _ (List.mem_append_right _ (List.mem_append_right _ (List.mem_append_right _ (List.mem_append_left _ (List.mem_of_getElem? (l := B8) (i := 15) rfl))))))))))
theorem k176 : Cond.methodLink "ImageGcdsLaw" 99 yM_times ∈ W0 := (List.mem_append_right _ (List.mem_append_right _ (List.mem_append_right _ (List.mem_append_right _ (List.mem_append_right _ (List.mem_append_right _ (List.mem_append_right _ (List.mem_append_right _ (List.mem_append_left _ (List.mem_of_getElem? (l := B8) (i := 16) rfl))))))))))
theorem k177 : Cond.instanceMethod yM_times ∈ W0 := (List.mem_append_right _ (List.mem_append_right _ (List.mem_append_right _ (List.mem_append_right _ (List.mem_append_right _ (List.mem_append_right _ (List.mem_append_right _ (List.mem_append_right _ (List.mem_append_left _ (List.mem_of_getElem? (l := B8) (i := 17) rfl))))))))))
theorem k178 : Cond.selects "ImageGcdsModel" yM_times yM_times ∈ W0 := (List.mem_append_right _ (List.mem_append_right _ (List.mem_append_right _ (List.mem_append_right _ (List.mem_append_right _ (List.mem_append_right _ (List.mem_append_right _ (List.mem_append_right _ (List.mem_append_left _ (List.mem_of_getElem? (l := B8) (i := 18) rfl))))))))))
theorem k179 : Cond.code yM_times bM_times 3 (some .int) ∈ W0 := (List.mem_append_right _ (List.mem_append_right _ (List.mem_append_right _ (List.mem_append_right _ (List.mem_append_right _ (List.mem_append_right _ (List.mem_append_right _ (List.mem_append_right _ (List.mem_append_left _ (List.mem_of_getElem? (l := B8) (i := 19) rfl))))))))))
theorem k180 : Cond.methodLink "ImageGcdsLaw" 100 yL_over ∈ W0 := (List.mem_append_right _ (List.mem_append_right _ (List.mem_append_right _ (List.mem_append_right _ (List.mem_append_right _ (List.mem_append_right _ (List.mem_append_right _ (List.mem_append_right _ (List.mem_append_right _ (List.mem_append_left _ (List.mem_of_getElem? (l := B9) (i := 0) rfl)))))))))))
theorem k181 : Cond.static yL_over ∈ W0 := (List.mem_append_right _ (List.mem_append_right _ (List.mem_append_right _ (List.mem_append_right _ (List.mem_append_right _ (List.mem_append_right _ (List.mem_append_right _ (List.mem_append_right _ (List.mem_append_right _ (List.mem_append_left _ (List.mem_of_getElem? (l := B9) (i := 1) rfl)))))))))))
theorem k182 : Cond.codeWith yL_over bL_over 5 (some .int) [(0, 10, 13, 19), (0, 10, 17, 13)] ∈ W0 := (List.mem_append_right _ (List.mem_append_right _ (List.mem_append_right _ (List.mem_append_right _ (List.mem_append_right _ (List.mem_append_right _ (List.mem_append_right _ (List.mem_append_right _ (List.mem_append_right _ (List.mem_append_left _ (List.mem_of_getElem? (l := B9) (i := 2) rfl)))))))))))
theorem k183 : Cond.methodLink "ImageGcdsLaw" 102 yM_over ∈ W0 := (List.mem_append_right _ (List.mem_append_right _ (List.mem_append_right _ (List.mem_append_right _ (List.mem_append_right _ (List.mem_append_right _ (List.mem_append_right _ (List.mem_append_right _ (List.mem_append_right _ (List.mem_append_left _ (List.mem_of_getElem? (l := B9) (i := 3) rfl)))))))))))
theorem k184 : Cond.instanceMethod yM_over ∈ W0 := (List.mem_append_right _ (List.mem_append_right _ (List.mem_append_right _ (List.mem_append_right _ (List.mem_append_right _ (List.mem_append_right _ (List.mem_append_right _ (List.mem_append_right _ (List.mem_append_right _ (List.mem_append_left _ (List.mem_of_getElem? (l := B9) (i := 4) rfl)))))))))))
theorem k185 : Cond.selects "ImageGcdsModel" yM_over yM_over ∈ W0 := (List.mem_append_right _ (List.mem_append_right _ (List.mem_append_right _ (List.mem_append_right _ (List.mem_append_right _ (List.mem_append_right _ (List.mem_append_right _ (List.mem_append_right _ (List.mem_append_right _ (List.mem_append_left _ (List.mem_of_getElem? (l := B9) (i := 5) rfl)))))))))))
theorem k186 : Cond.code yM_over bM_over 3 (some .int) ∈ W0 := (List.mem_append_right _ (List.mem_append_right _ (List.mem_append_right _ (List.mem_append_right _ (List.mem_append_right _ (List.mem_append_right _ (List.mem_append_right _ (List.mem_append_right _ (List.mem_append_right _ (List.mem_append_left _ (List.mem_of_getElem? (l := B9) (i := 6) rfl)))))))))))
theorem k187 : Cond.methodLink "ImageGcdsLaw" 103 yL_gcd ∈ W0 := (List.mem_append_right _ (List.mem_append_right _ (List.mem_append_right _ (List.mem_append_right _ (List.mem_append_right _ (List.mem_append_right _ (List.mem_append_right _ (List.mem_append_right _ (List.mem_append_right _ (List.mem_append_left _ (List.mem_of_getElem? (l := B9) (i := 7) rfl)))))))))))
theorem k188 : Cond.static yL_gcd ∈ W0 := (List.mem_append_right _ (List.mem_append_right _ (List.mem_append_right _ (List.mem_append_right _ (List.mem_append_right _ (List.mem_append_right _ (List.mem_append_right _ (List.mem_append_right _ (List.mem_append_right _ (List.mem_append_left _ (List.mem_of_getElem? (l := B9) (i := 8) rfl)))))))))))
theorem k189 : Cond.codeWith yL_gcd bL_gcd 5 (some .int) [(0, 10, 13, 19), (0, 10, 17, 13)] ∈ W0 := (List.mem_append_right _ (List.mem_append_right _ (List.mem_append_right _ (List.mem_append_right _ (List.mem_append_right _ (List.mem_append_right _ (List.mem_append_right _ (List.mem_append_right _ (List.mem_append_right _ (List.mem_append_left _ (List.mem_of_getElem? (l := B9) (i := 9) rfl)))))))))))
theorem k190 : Cond.methodLink "ImageGcdsLaw" 105 yM_gcd ∈ W0 := (List.mem_append_right _ (List.mem_append_right _ (List.mem_append_right _ (List.mem_append_right _ (List.mem_append_right _ (List.mem_append_right _ (List.mem_append_right _ (List.mem_append_right _ (List.mem_append_right _ (List.mem_append_left _ (List.mem_of_getElem? (l := B9) (i := 10) rfl)))))))))))
theorem k191 : Cond.instanceMethod yM_gcd ∈ W0 := (List.mem_append_right _ (List.mem_append_right _ (List.mem_append_right _ (List.mem_append_right _ (List.mem_append_right _ (List.mem_append_right _ (List.mem_append_right _ (List.mem_append_right _ (List.mem_append_right _ (List.mem_append_left _ (List.mem_of_getElem? (l := B9) (i := 11) rfl)))))))))))
theorem k192 : Cond.selects "ImageGcdsModel" yM_gcd yM_gcd ∈ W0 := (List.mem_append_right _ (List.mem_append_right _ (List.mem_append_right _ (List.mem_append_right _ (List.mem_append_right _ (List.mem_append_right _ (List.mem_append_right _ (List.mem_append_right _ (List.mem_append_right _ (List.mem_append_left _ (List.mem_of_getElem? (l := B9) (i := 12) rfl)))))))))))
theorem k193 : Cond.code yM_gcd bM_gcd 3 (some .int) ∈ W0 := (List.mem_append_right _ (List.mem_append_right _ (List.mem_append_right _ (List.mem_append_right _ (List.mem_append_right _ (List.mem_append_right _ (List.mem_append_right _ (List.mem_append_right _ (List.mem_append_right _ (List.mem_append_left _ (List.mem_of_getElem? (l := B9) (i := 13) rfl)))))))))))
theorem k194 : Cond.methodLink "ImageGcdsLaw" 106 yL_resultant ∈ W0 := (List.mem_append_right _ (List.mem_append_right _ (List.mem_append_right _ (List.mem_append_right _ (List.mem_append_right _ (List.mem_append_right _ (List.mem_append_right _ (List.mem_append_right _ (List.mem_append_right _ (List.mem_append_left _ (List.mem_of_getElem? (l := B9) (i := 14) rfl)))))))))))
theorem k195 : Cond.static yL_resultant ∈ W0 := (List.mem_append_right _ (List.mem_append_right _ (List.mem_append_right _ (List.mem_append_right _ (List.mem_append_right _ (List.mem_append_right _ (List.mem_append_right _ (List.mem_append_right _ (List.mem_append_right _ (List.mem_append_left _ (List.mem_of_getElem? (l := B9) (i := 15) rfl)))))))))))
theorem k196 : Cond.codeWith yL_resultant bL_resultant 6 (some .int) [(0, 12, 15, 19), (0, 12, 19, 13), (0, 12, 23, 21)] ∈ W0 := (List.mem_append_right _ (List.mem_append_right _ (List.mem_append_right _ (List.mem_append_right _ (List.mem_append_right _ (List.mem_append_right _ (List.mem_append_right _ (List.mem_append_right _ (List.mem_append_right _ (List.mem_append_left _ (List.mem_of_getElem? (l := B9) (i := 16) rfl)))))))))))
theorem k197 : Cond.methodLink "ImageGcdsLaw" 109 yM_resultant ∈ W0 := (List.mem_append_right _ (List.mem_append_right _ (List.mem_append_right _ (List.mem_append_right _ (List.mem_append_right _ (List.mem_append_right _ (List.mem_append_right _ (List.mem_append_right _ (List.mem_append_right _ (List.mem_append_left _ (List.mem_of_getElem? (l := B9) (i := 17) rfl)))))))))))
theorem k198 : Cond.instanceMethod yM_resultant ∈ W0 := (List.mem_append_right _ (List.mem_append_right _ (List.mem_append_right _ (List.mem_append_right _ (List.mem_append_right _ (List.mem_append_right _ (List.mem_append_right _ (List.mem_append_right _ (List.mem_append_right _ (List.mem_append_left _ (List.mem_of_getElem? (l := B9) (i := 18) rfl)))))))))))
theorem k199 : Cond.selects "ImageGcdsModel" yM_resultant yM_resultant ∈ W0 := (List.mem_append_right _ (List.mem_append_right _ (List.mem_append_right _ (List.mem_append_right _ (List.mem_append_right _ (List.mem_append_right _ (List.mem_append_right _ (List.mem_append_right _ (List.mem_append_right _ (List.mem_append_left _ (List.mem_of_getElem? (l := B9) (i := 19) rfl)))))))))))
theorem k200 : Cond.code yM_resultant bM_resultant 12 (some .int) ∈ W0 := (List.mem_append_right _ (List.mem_append_right _ (List.mem_append_right _ (List.mem_append_right _ (List.mem_append_right _ (List.mem_append_right _ (List.mem_append_right _ (List.mem_append_right _ (List.mem_append_right _ (List.mem_append_right _ (List.mem_append_left _ (List.mem_of_getElem? (l := B10) (i := 0) rfl))))))))))))
theorem k201 : Cond.methodLink "ImageGcdsLaw" 110 yL_slope ∈ W0 := (List.mem_append_right _ (List.mem_append_right _ (List.mem_append_right _ (List.mem_append_right _ (List.mem_append_right _ (List.mem_append_right _ (List.mem_append_right _ (List.mem_append_right _ (List.mem_append_right _ (List.mem_append_right _ (List.mem_append_left _ (List.mem_of_getElem? (l := B10) (i := 1) rfl))))))))))))
theorem k202 : Cond.static yL_slope ∈ W0 := (List.mem_append_right _ (List.mem_append_right _ (List.mem_append_right _ (List.mem_append_right _ (List.mem_append_right _ (List.mem_append_right _ (List.mem_append_right _ (List.mem_append_right _ (List.mem_append_right _ (List.mem_append_right _ (List.mem_append_left _ (List.mem_of_getElem? (l := B10) (i := 2) rfl))))))))))))
theorem k203 : Cond.codeWith yL_slope bL_slope 5 (some .int) [(0, 10, 13, 19), (0, 10, 17, 13), (0, 10, 21, 21)] ∈ W0 := (List.mem_append_right _ (List.mem_append_right _ (List.mem_append_right _ (List.mem_append_right _ (List.mem_append_right _ (List.mem_append_right _ (List.mem_append_right _ (List.mem_append_right _ (List.mem_append_right _ (List.mem_append_right _ (List.mem_append_left _ (List.mem_of_getElem? (l := B10) (i := 3) rfl))))))))))))
theorem k204 : Cond.methodLink "ImageGcdsLaw" 112 yM_slope ∈ W0 := (List.mem_append_right _ (List.mem_append_right _ (List.mem_append_right _ (List.mem_append_right _ (List.mem_append_right _ (List.mem_append_right _ (List.mem_append_right _ (List.mem_append_right _ (List.mem_append_right _ (List.mem_append_right _ (List.mem_append_left _ (List.mem_of_getElem? (l := B10) (i := 4) rfl))))))))))))
theorem k205 : Cond.instanceMethod yM_slope ∈ W0 := (List.mem_append_right _ (List.mem_append_right _ (List.mem_append_right _ (List.mem_append_right _ (List.mem_append_right _ (List.mem_append_right _ (List.mem_append_right _ (List.mem_append_right _ (List.mem_append_right _ (List.mem_append_right _ (List.mem_append_left _ (List.mem_of_getElem? (l := B10) (i := 5) rfl))))))))))))
theorem k206 : Cond.selects "ImageGcdsModel" yM_slope yM_slope ∈ W0 := (List.mem_append_right _ (List.mem_append_right _ (List.mem_append_right _ (List.mem_append_right _ (List.mem_append_right _ (List.mem_append_right _ (List.mem_append_right _ (List.mem_append_right _ (List.mem_append_right _ (List.mem_append_right _ (List.mem_append_left _ (List.mem_of_getElem? (l := B10) (i := 6) rfl))))))))))))
theorem k207 : Cond.code yM_slope bM_slope 3 (some .int) ∈ W0 := (List.mem_append_right _ (List.mem_append_right _ (List.mem_append_right _ (List.mem_append_right _ (List.mem_append_right _ (List.mem_append_right _ (List.mem_append_right _ (List.mem_append_right _ (List.mem_append_right _ (List.mem_append_right _ (List.mem_append_left _ (List.mem_of_getElem? (l := B10) (i := 7) rfl))))))))))))
theorem k208 : Cond.methodLink "ImageGcdsLaw" 113 yL_content ∈ W0 := (List.mem_append_right _ (List.mem_append_right _ (List.mem_append_right _ (List.mem_append_right _ (List.mem_append_right _ (List.mem_append_right _ (List.mem_append_right _ (List.mem_append_right _ (List.mem_append_right _ (List.mem_append_right _ (List.mem_append_left _ (List.mem_of_getElem? (l := B10) (i := 8) rfl))))))))))))
theorem k209 : Cond.static yL_content ∈ W0 := (List.mem_append_right _ (List.mem_append_right _ (List.mem_append_right _ (List.mem_append_right _ (List.mem_append_right _ (List.mem_append_right _ (List.mem_append_right _ (List.mem_append_right _ (List.mem_append_right _ (List.mem_append_right _ (List.mem_append_left _ (List.mem_of_getElem? (l := B10) (i := 9) rfl))))))))))))
theorem k210 : Cond.codeWith yL_content bL_content 5 (some .int) [(0, 10, 13, 19), (0, 10, 17, 13), (0, 10, 21, 21)] ∈ W0 := (List.mem_append_right _ (List.mem_append_right _ (List.mem_append_right _ (List.mem_append_right _ (List.mem_append_right _ (List.mem_append_right _ (List.mem_append_right _ (List.mem_append_right _ (List.mem_append_right _ (List.mem_append_right _ (List.mem_append_left _ (List.mem_of_getElem? (l := B10) (i := 10) rfl))))))))))))
theorem k211 : Cond.methodLink "ImageGcdsLaw" 115 yM_content ∈ W0 := (List.mem_append_right _ (List.mem_append_right _ (List.mem_append_right _ (List.mem_append_right _ (List.mem_append_right _ (List.mem_append_right _ (List.mem_append_right _ (List.mem_append_right _ (List.mem_append_right _ (List.mem_append_right _ (List.mem_append_left _ (List.mem_of_getElem? (l := B10) (i := 11) rfl))))))))))))
theorem k212 : Cond.instanceMethod yM_content ∈ W0 := (List.mem_append_right _ (List.mem_append_right _ (List.mem_append_right _ (List.mem_append_right _ (List.mem_append_right _ (List.mem_append_right _ (List.mem_append_right _ (List.mem_append_right _ (List.mem_append_right _ (List.mem_append_right _ (List.mem_append_left _ (List.mem_of_getElem? (l := B10) (i := 12) rfl))))))))))))
theorem k213 : Cond.selects "ImageGcdsModel" yM_content yM_content ∈ W0 := (List.mem_append_right _ (List.mem_append_right _ (List.mem_append_right _ (List.mem_append_right _ (List.mem_append_right _ (List.mem_append_right _ (List.mem_append_right _ (List.mem_append_right _ (List.mem_append_right _ (List.mem_append_right _ (List.mem_append_left _ (List.mem_of_getElem? (l := B10) (i := 13) rfl))))))))))))
theorem k214 : Cond.code yM_content bM_content 5 (some .int) ∈ W0 := (List.mem_append_right _ (List.mem_append_right _ (List.mem_append_right _ (List.mem_append_right _ (List.mem_append_right _ (List.mem_append_right _ (List.mem_append_right _ (List.mem_append_right _ (List.mem_append_right _ (List.mem_append_right _ (List.mem_append_left _ (List.mem_of_getElem? (l := B10) (i := 14) rfl))))))))))))
theorem k215 : Cond.methodLink "ImageGcdsLaw" 116 yL_part ∈ W0 := (List.mem_append_right _ (List.mem_append_right _ (List.mem_append_right _ (List.mem_append_right _ (List.mem_append_right _ (List.mem_append_right _ (List.mem_append_right _ (List.mem_append_right _ (List.mem_append_right _ (List.mem_append_right _ (List.mem_append_left _ (List.mem_of_getElem? (l := B10) (i := 15) rfl))))))))))))
theorem k216 : Cond.static yL_part ∈ W0 := (List.mem_append_right _ (List.mem_append_right _ (List.mem_append_right _ (List.mem_append_right _ (List.mem_append_right _ (List.mem_append_right _ (List.mem_append_right _ (List.mem_append_right _ (List.mem_append_right _ (List.mem_append_right _ (List.mem_append_left _ (List.mem_of_getElem? (l := B10) (i := 16) rfl))))))))))))
theorem k217 : Cond.codeWith yL_part bL_part 5 (some .int) [(0, 10, 13, 19), (0, 10, 17, 13), (0, 10, 21, 21)] ∈ W0 := (List.mem_append_right _ (List.mem_append_right _ (List.mem_append_right _ (List.mem_append_right _ (List.mem_append_right _ (List.mem_append_right _ (List.mem_append_right _ (List.mem_append_right _ (List.mem_append_right _ (List.mem_append_right _ (List.mem_append_left _ (List.mem_of_getElem? (l := B10) (i := 17) rfl))))))))))))
theorem k218 : Cond.methodLink "ImageGcdsLaw" 118 yM_part ∈ W0 := (List.mem_append_right _ (List.mem_append_right _ (List.mem_append_right _ (List.mem_append_right _ (List.mem_append_right _ (List.mem_append_right _ (List.mem_append_right _ (List.mem_append_right _ (List.mem_append_right _ (List.mem_append_right _ (List.mem_append_left _ (List.mem_of_getElem? (l := B10) (i := 18) rfl))))))))))))
theorem k219 : Cond.instanceMethod yM_part ∈ W0 := (List.mem_append_right _ (List.mem_append_right _ (List.mem_append_right _ (List.mem_append_right _ (List.mem_append_right _ (List.mem_append_right _ (List.mem_append_right _ (List.mem_append_right _ (List.mem_append_right _ (List.mem_append_right _ (List.mem_append_left _ (List.mem_of_getElem? (l := B10) (i := 19) rfl))))))))))))
theorem k220 : Cond.selects "ImageGcdsModel" yM_part yM_part ∈ W0 := (List.mem_append_right _ (List.mem_append_right _ (List.mem_append_right _ (List.mem_append_right _ (List.mem_append_right _ (List.mem_append_right _ (List.mem_append_right _ (List.mem_append_right _ (List.mem_append_right _ (List.mem_append_right _ (List.mem_append_right _ (List.mem_append_left _ (List.mem_of_getElem? (l := B11) (i := 0) rfl)))))))))))))
theorem k221 : Cond.code yM_part bM_part 7 (some .int) ∈ W0 := (List.mem_append_right _ (List.mem_append_right _ (List.mem_append_right _ (List.mem_append_right _ (List.mem_append_right _ (List.mem_append_right _ (List.mem_append_right _ (List.mem_append_right _ (List.mem_append_right _ (List.mem_append_right _ (List.mem_append_right _ (List.mem_append_left _ (List.mem_of_getElem? (l := B11) (i := 1) rfl)))))))))))))
theorem k222 : Cond.methodLink "ImageGcdsLaw" 119 yL_image ∈ W0 := (List.mem_append_right _ (List.mem_append_right _ (List.mem_append_right _ (List.mem_append_right _ (List.mem_append_right _ (List.mem_append_right _ (List.mem_append_right _ (List.mem_append_right _ (List.mem_append_right _ (List.mem_append_right _ (List.mem_append_right _ (List.mem_append_left _ (List.mem_of_getElem? (l := B11) (i := 2) rfl)))))))))))))
theorem k223 : Cond.static yL_image ∈ W0 := (List.mem_append_right _ (List.mem_append_right _ (List.mem_append_right _ (List.mem_append_right _ (List.mem_append_right _ (List.mem_append_right _ (List.mem_append_right _ (List.mem_append_right _ (List.mem_append_right _ (List.mem_append_right _ (List.mem_append_right _ (List.mem_append_left _ (List.mem_of_getElem? (l := B11) (i := 3) rfl)))))))))))))
theorem k224 : Cond.codeWith yL_image bL_image 6 (some .int) [(0, 12, 15, 19), (0, 12, 19, 13), (0, 12, 23, 21)] ∈ W0 := (List.mem_append_right _ (List.mem_append_right _ (List.mem_append_right _ (List.mem_append_right _ (List.mem_append_right _ (List.mem_append_right _ (List.mem_append_right _ (List.mem_append_right _ (List.mem_append_right _ (List.mem_append_right _ (List.mem_append_right _ (List.mem_append_left _ (List.mem_of_getElem? (l := B11) (i := 4) rfl)))))))))))))
theorem k225 : Cond.methodLink "ImageGcdsLaw" 121 yM_image ∈ W0 := (List.mem_append_right _ (List.mem_append_right _ (List.mem_append_right _ (List.mem_append_right _ (List.mem_append_right _ (List.mem_append_right _ (List.mem_append_right _ (List.mem_append_right _ (List.mem_append_right _ (List.mem_append_right _ (List.mem_append_right _ (List.mem_append_left _ (List.mem_of_getElem? (l := B11) (i := 5) rfl)))))))))))))
theorem k226 : Cond.instanceMethod yM_image ∈ W0 := (List.mem_append_right _ (List.mem_append_right _ (List.mem_append_right _ (List.mem_append_right _ (List.mem_append_right _ (List.mem_append_right _ (List.mem_append_right _ (List.mem_append_right _ (List.mem_append_right _ (List.mem_append_right _ (List.mem_append_right _ (List.mem_append_left _ (List.mem_of_getElem? (l := B11) (i := 6) rfl)))))))))))))
theorem k227 : Cond.selects "ImageGcdsModel" yM_image yM_image ∈ W0 := (List.mem_append_right _ (List.mem_append_right _ (List.mem_append_right _ (List.mem_append_right _ (List.mem_append_right _ (List.mem_append_right _ (List.mem_append_right _ (List.mem_append_right _ (List.mem_append_right _ (List.mem_append_right _ (List.mem_append_right _ (List.mem_append_left _ (List.mem_of_getElem? (l := B11) (i := 7) rfl)))))))))))))
theorem k228 : Cond.code yM_image bM_image 10 (some .int) ∈ W0 := (List.mem_append_right _ (List.mem_append_right _ (List.mem_append_right _ (List.mem_append_right _ (List.mem_append_right _ (List.mem_append_right _ (List.mem_append_right _ (List.mem_append_right _ (List.mem_append_right _ (List.mem_append_right _ (List.mem_append_right _ (List.mem_append_left _ (List.mem_of_getElem? (l := B11) (i := 8) rfl)))))))))))))
theorem k229 : Cond.methodLink "ImageGcdsLaw" 122 yL_equal ∈ W0 := (List.mem_append_right _ (List.mem_append_right _ (List.mem_append_right _ (List.mem_append_right _ (List.mem_append_right _ (List.mem_append_right _ (List.mem_append_right _ (List.mem_append_right _ (List.mem_append_right _ (List.mem_append_right _ (List.mem_append_right _ (List.mem_append_left _ (List.mem_of_getElem? (l := B11) (i := 9) rfl)))))))))))))
theorem k230 : Cond.static yL_equal ∈ W0 := (List.mem_append_right _ (List.mem_append_right _ (List.mem_append_right _ (List.mem_append_right _ (List.mem_append_right _ (List.mem_append_right _ (List.mem_append_right _ (List.mem_append_right _ (List.mem_append_right _ (List.mem_append_right _ (List.mem_append_right _ (List.mem_append_left _ (List.mem_of_getElem? (l := B11) (i := 10) rfl)))))))))))))
theorem k231 : Cond.codeWith yL_equal bL_equal 5 (some .int) [(0, 17, 20, 19)] ∈ W0 := (List.mem_append_right _ (List.mem_append_right _ (List.mem_append_right _ (List.mem_append_right _ (List.mem_append_right _ (List.mem_append_right _ (List.mem_append_right _ (List.mem_append_right _ (List.mem_append_right _ (List.mem_append_right _ (List.mem_append_right _ (List.mem_append_left _ (List.mem_of_getElem? (l := B11) (i := 11) rfl)))))))))))))
theorem k232 : Cond.methodLink "ImageGcdsLaw" 124 yM_equal ∈ W0 := (List.mem_append_right _ (List.mem_append_right _ (List.mem_append_right _ (List.mem_append_right _ (List.mem_append_right _ (List.mem_append_right _ (List.mem_append_right _ (List.mem_append_right _ (List.mem_append_right _ (List.mem_append_right _ (List.mem_append_right _ (List.mem_append_left _ (List.mem_of_getElem? (l := B11) (i := 12) rfl)))))))))))))
theorem k233 : Cond.instanceMethod yM_equal ∈ W0 := (List.mem_append_right _ (List.mem_append_right _ (List.mem_append_right _ (List.mem_append_right _ (List.mem_append_right _ (List.mem_append_right _ (List.mem_append_right _ (List.mem_append_right _ (List.mem_append_right _ (List.mem_append_right _ (List.mem_append_right _ (List.mem_append_left _ (List.mem_of_getElem? (l := B11) (i := 13) rfl)))))))))))))
theorem k234 : Cond.selects "ImageGcdsModel" yM_equal yM_equal ∈ W0 := (List.mem_append_right _ (List.mem_append_right _ (List.mem_append_right _ (List.mem_append_right _ (List.mem_append_right _ (List.mem_append_right _ (List.mem_append_right _ (List.mem_append_right _ (List.mem_append_right _ (List.mem_append_right _ (List.mem_append_right _ (List.mem_append_left _ (List.mem_of_getElem? (l := B11) (i := 14) rfl)))))))))))))
theorem k235 : Cond.code yM_equal bM_equal 5 (some .boolean) ∈ W0 := (List.mem_append_right _ (List.mem_append_right _ (List.mem_append_right _ (List.mem_append_right _ (List.mem_append_right _ (List.mem_append_right _ (List.mem_append_right _ (List.mem_append_right _ (List.mem_append_right _ (List.mem_append_right _ (List.mem_append_right _ (List.mem_append_left _ (List.mem_of_getElem? (l := B11) (i := 15) rfl)))))))))))))
theorem k236 : Cond.methodLink "ImageGcdsLaw" 125 yL_terms ∈ W0 := (List.mem_append_right _ (List.mem_append_right _ (List.mem_append_right _ (List.mem_append_right _ (List.mem_append_right _ (List.mem_append_right _ (List.mem_append_right _ (List.mem_append_right _ (List.mem_append_right _ (List.mem_append_right _ (List.mem_append_right _ (List.mem_append_left _ (List.mem_of_getElem? (l := B11) (i := 16) rfl)))))))))))))
theorem k237 : Cond.static yL_terms ∈ W0 := (List.mem_append_right _ (List.mem_append_right _ (List.mem_append_right _ (List.mem_append_right _ (List.mem_append_right _ (List.mem_append_right _ (List.mem_append_right _ (List.mem_append_right _ (List.mem_append_right _ (List.mem_append_right _ (List.mem_append_right _ (List.mem_append_left _ (List.mem_of_getElem? (l := B11) (i := 17) rfl)))))))))))))
theorem k238 : Cond.codeWith yL_terms bL_terms 4 (some .int) [(0, 9, 12, 19)] ∈ W0 := (List.mem_append_right _ (List.mem_append_right _ (List.mem_append_right _ (List.mem_append_right _ (List.mem_append_right _ (List.mem_append_right _ (List.mem_append_right _ (List.mem_append_right _ (List.mem_append_right _ (List.mem_append_right _ (List.mem_append_right _ (List.mem_append_left _ (List.mem_of_getElem? (l := B11) (i := 18) rfl)))))))))))))
theorem k239 : Cond.methodLink "ImageGcdsLaw" 128 yM_terms ∈ W0 := (List.mem_append_right _ (List.mem_append_right _ (List.mem_append_right _ (List.mem_append_right _ (List.mem_append_right _ (List.mem_append_right _ (List.mem_append_right _ (List.mem_append_right _ (List.mem_append_right _ (List.mem_append_right _ (List.mem_append_right _ (List.mem_append_left _ (List.mem_of_getElem? (l := B11) (i := 19) rfl)))))))))))))
theorem k240 : Cond.instanceMethod yM_terms ∈ W0 := (List.mem_append_right _ (List.mem_append_right _ (List.mem_append_right _ (List.mem_append_right _ (List.mem_append_right _ (List.mem_append_right _ (List.mem_append_right _ (List.mem_append_right _ (List.mem_append_right _ (List.mem_append_right _ (List.mem_append_right _ (List.mem_append_right _ (List.mem_append_left _ (List.mem_of_getElem? (l := B12) (i := 0) rfl))))))))))))))
theorem k241 : Cond.selects "ImageGcdsModel" yM_terms yM_terms ∈ W0 := (List.mem_append_right _ (List.mem_append_right _ (List.mem_append_right _ (List.mem_append_right _ (List.mem_append_right _ (List.mem_append_right _ (List.mem_append_right _ (List.mem_append_right _ (List.mem_append_right _ (List.mem_append_right _ (List.mem_append_right _ (List.mem_append_right _ (List.mem_append_left _ (List.mem_of_getElem? (l := B12) (i := 1) rfl))))))))))))))
theorem k242 : Cond.code yM_terms bM_terms 2 (some .int) ∈ W0 := (List.mem_append_right _ (List.mem_append_right _ (List.mem_append_right _ (List.mem_append_right _ (List.mem_append_right _ (List.mem_append_right _ (List.mem_append_right _ (List.mem_append_right _ (List.mem_append_right _ (List.mem_append_right _ (List.mem_append_right _ (List.mem_append_right _ (List.mem_append_left _ (List.mem_of_getElem? (l := B12) (i := 2) rfl))))))))))))))
theorem k243 : Cond.methodLink "ImageGcdsLaw" 129 yL_at ∈ W0 := (List.mem_append_right _ (List.mem_append_right _ (List.mem_append_right _ (List.mem_append_right _ (List.mem_append_right _ (List.mem_append_right _ (List.mem_append_right _ (List.mem_append_right _ (List.mem_append_right _ (List.mem_append_right _ (List.mem_append_right _ (List.mem_append_right _ (List.mem_append_left _ (List.mem_of_getElem? (l := B12) (i := 3) rfl))))))))))))))
theorem k244 : Cond.static yL_at ∈ W0 := (List.mem_append_right _ (List.mem_append_right _ (List.mem_append_right _ (List.mem_append_right _ (List.mem_append_right _ (List.mem_append_right _ (List.mem_append_right _ (List.mem_append_right _ (List.mem_append_right _ (List.mem_append_right _ (List.mem_append_right _ (List.mem_append_right _ (List.mem_append_left _ (List.mem_of_getElem? (l := B12) (i := 4) rfl))))))))))))))
theorem k245 : Cond.codeWith yL_at bL_at 6 (some .int) [(0, 12, 15, 19), (0, 12, 19, 21)] ∈ W0 := (List.mem_append_right _ (List.mem_append_right _ (List.mem_append_right _ (List.mem_append_right _ (List.mem_append_right _ (List.mem_append_right _ (List.mem_append_right _ (List.mem_append_right _ (List.mem_append_right _ (List.mem_append_right _ (List.mem_append_right _ (List.mem_append_right _ (List.mem_append_left _ (List.mem_of_getElem? (l := B12) (i := 5) rfl))))))))))))))
theorem k246 : Cond.methodLink "ImageGcdsLaw" 131 yM_at ∈ W0 := (List.mem_append_right _ (List.mem_append_right _ (List.mem_append_right _ (List.mem_append_right _ (List.mem_append_right _ (List.mem_append_right _ (List.mem_append_right _ (List.mem_append_right _ (List.mem_append_right _ (List.mem_append_right _ (List.mem_append_right _ (List.mem_append_right _ (List.mem_append_left _ (List.mem_of_getElem? (l := B12) (i := 6) rfl))))))))))))))
theorem k247 : Cond.instanceMethod yM_at ∈ W0 := (List.mem_append_right _ (List.mem_append_right _ (List.mem_append_right _ (List.mem_append_right _ (List.mem_append_right _ (List.mem_append_right _ (List.mem_append_right _ (List.mem_append_right _ (List.mem_append_right _ (List.mem_append_right _ (List.mem_append_right _ (List.mem_append_right _ (List.mem_append_left _ (List.mem_of_getElem? (l := B12) (i := 7) rfl))))))))))))))
theorem k248 : Cond.selects "ImageGcdsModel" yM_at yM_at ∈ W0 := (List.mem_append_right _ (List.mem_append_right _ (List.mem_append_right _ (List.mem_append_right _ (List.mem_append_right _ (List.mem_append_right _ (List.mem_append_right _ (List.mem_append_right _ (List.mem_append_right _ (List.mem_append_right _ (List.mem_append_right _ (List.mem_append_right _ (List.mem_append_left _ (List.mem_of_getElem? (l := B12) (i := 8) rfl))))))))))))))
theorem k249 : Cond.code yM_at bM_at 9 (some .int) ∈ W0 := (List.mem_append_right _ (List.mem_append_right _ (List.mem_append_right _ (List.mem_append_right _ (List.mem_append_right _ (List.mem_append_right _ (List.mem_append_right _ (List.mem_append_right _ (List.mem_append_right _ (List.mem_append_right _ (List.mem_append_right _ (List.mem_append_right _ (List.mem_append_left _ (List.mem_of_getElem? (l := B12) (i := 9) rfl))))))))))))))
theorem k250 : Cond.methodLink "ImageGcdsLaw" 132 yL_degree ∈ W0 := (List.mem_append_right _ (List.mem_append_right _ (List.mem_append_right _ (List.mem_append_right _ (List.mem_append_right _ (List.mem_append_right _ (List.mem_append_right _ (List.mem_append_right _ (List.mem_append_right _ (List.mem_append_right _ (List.mem_append_right _ (List.mem_append_right _ (List.mem_append_left _ (List.mem_of_getElem? (l := B12) (i := 10) rfl))))))))))))))
theorem k251 : Cond.static yL_degree ∈ W0 := (List.mem_append_right _ (List.mem_append_right _ (List.mem_append_right _ (List.mem_append_right _ (List.mem_append_right _ (List.mem_append_right _ (List.mem_append_right _ (List.mem_append_right _ (List.mem_append_right _ (List.mem_append_right _ (List.mem_append_right _ (List.mem_append_right _ (List.mem_append_left _ (List.mem_of_getElem? (l := B12) (i := 11) rfl))))))))))))))
theorem k252 : Cond.codeWith yL_degree bL_degree 5 (some .int) [(0, 10, 13, 19), (0, 10, 17, 21)] ∈ W0 := (List.mem_append_right _ (List.mem_append_right _ (List.mem_append_right _ (List.mem_append_right _ (List.mem_append_right _ (List.mem_append_right _ (List.mem_append_right _ (List.mem_append_right _ (List.mem_append_right _ (List.mem_append_right _ (List.mem_append_right _ (List.mem_append_right _ (List.mem_append_left _ (List.mem_of_getElem? (l := B12) (i := 12) rfl))))))))))))))
theorem k253 : Cond.methodLink "ImageGcdsLaw" 134 yM_degree ∈ W0 := (List.mem_append_right _ (List.mem_append_right _ (List.mem_append_right _ (List.mem_append_right _ (List.mem_append_right _ (List.mem_append_right _ (List.mem_append_right _ (List.mem_append_right _ (List.mem_append_right _ (List.mem_append_right _ (List.mem_append_right _ (List.mem_append_right _ (List.mem_append_left _ (List.mem_of_getElem? (l := B12) (i := 13) rfl))))))))))))))
theorem k254 : Cond.instanceMethod yM_degree ∈ W0 := (List.mem_append_right _ (List.mem_append_right _ (List.mem_append_right _ (List.mem_append_right _ (List.mem_append_right _ (List.mem_append_right _ (List.mem_append_right _ (List.mem_append_right _ (List.mem_append_right _ (List.mem_append_right _ (List.mem_append_right _ (List.mem_append_right _ (List.mem_append_left _ (List.mem_of_getElem? (l := B12) (i := 14) rfl))))))))))))))
theorem k255 : Cond.selects "ImageGcdsModel" yM_degree yM_degree ∈ W0 := (List.mem_append_right _ (List.mem_append_right _ (List.mem_append_right _ (List.mem_append_right _ (List.mem_append_right _ (List.mem_append_right _ (List.mem_append_right _ (List.mem_append_right _ (List.mem_append_right _ (List.mem_append_right _ (List.mem_append_right _ (List.mem_append_right _ (List.mem_append_left _ (List.mem_of_getElem? (l := B12) (i := 15) rfl))))))))))))))
theorem k256 : Cond.code yM_degree bM_degree 4 (some .int) ∈ W0 := (List.mem_append_right _ (List.mem_append_right _ (List.mem_append_right _ (List.mem_append_right _ (List.mem_append_right _ (List.mem_append_right _ (List.mem_append_right _ (List.mem_append_right _ (List.mem_append_right _ (List.mem_append_right _ (List.mem_append_right _ (List.mem_append_right _ (List.mem_append_left _ (List.mem_of_getElem? (l := B12) (i := 16) rfl))))))))))))))
theorem k257 : Cond.methodLink "ImageGcdsLaw" 135 yG_count ∈ W0 := (List.mem_append_right _ (List.mem_append_right _ (List.mem_append_right _ (List.mem_append_right _ (List.mem_append_right _ (List.mem_append_right _ (List.mem_append_right _ (List.mem_append_right _ (List.mem_append_right _ (List.mem_append_right _ (List.mem_append_right _ (List.mem_append_right _ (List.mem_append_left _ (List.mem_of_getElem? (l := B12) (i := 17) rfl))))))))))))))
theorem k258 : Cond.instanceMethod yG_count ∈ W0 := (List.mem_append_right _ (List.mem_append_right _ (List.mem_append_right _ (List.mem_append_right _ (List.mem_append_right _ (List.mem_append_right _ (List.mem_append_right _ (List.mem_append_right _ (List.mem_append_right _ (List.mem_append_right _ (List.mem_append_right _ (List.mem_append_right _ (List.mem_append_left _ (List.mem_of_getElem? (l := B12) (i := 18) rfl))))))))))))))
theorem k259 : Cond.selects "ImageGcds" yG_count yG_count ∈ W0 := (List.mem_append_right _ (List.mem_append_right _ (List.mem_append_right _ (List.mem_append_right _ (List.mem_append_right _ (List.mem_append_right _ (List.mem_append_right _ (List.mem_append_right _ (List.mem_append_right _ (List.mem_append_right _ (List.mem_append_right _ (List.mem_append_right _ (List.mem_append_left _ (List.mem_of_getElem? (l := B12) (i := 19) rfl))))))))))))))
theorem k260 : Cond.code yG_count bG_count 1 (some .int) ∈ W0 := (List.mem_append_right _ (List.mem_append_right _ (List.mem_append_right _ (List.mem_append_right _ (List.mem_append_right _ (List.mem_append_right _ (List.mem_append_right _ (List.mem_append_right _ (List.mem_append_right _ (List.mem_append_right _ (List.mem_append_right _ (List.mem_append_right _ (List.mem_append_right _ (List.mem_append_left _ (List.mem_of_getElem? (l := B13) (i := 0) rfl)))))))))))))))
theorem k261 : Cond.methodLink "ImageGcdsLaw" 138 yM_count ∈ W0 := (List.mem_append_right _ (List.mem_append_right _ (List.mem_append_right _ (List.mem_append_right _ (List.mem_append_right _ (List.mem_append_right _ (List.mem_append_right _ (List.mem_append_right _ (List.mem_append_right _ (List.mem_append_right _ (List.mem_append_right _ (List.mem_append_right _ (List.mem_append_right _ (List.mem_append_left _ (List.mem_of_getElem? (l := B13) (i := 1) rfl)))))))))))))))
theorem k262 : Cond.instanceMethod yM_count ∈ W0 := (List.mem_append_right _ (List.mem_append_right _ (List.mem_append_right _ (List.mem_append_right _ (List.mem_append_right _ (List.mem_append_right _ (List.mem_append_right _ (List.mem_append_right _ (List.mem_append_right _ (List.mem_append_right _ (List.mem_append_right _ (List.mem_append_right _ (List.mem_append_right _ (List.mem_append_left _ (List.mem_of_getElem? (l := B13) (i := 2) rfl)))))))))))))))
theorem k263 : Cond.selects "ImageGcdsModel" yM_count yM_count ∈ W0 := (List.mem_append_right _ (List.mem_append_right _ (List.mem_append_right _ (List.mem_append_right _ (List.mem_append_right _ (List.mem_append_right _ (List.mem_append_right _ (List.mem_append_right _ (List.mem_append_right _ (List.mem_append_right _ (List.mem_append_right _ (List.mem_append_right _ (List.mem_append_right _ (List.mem_append_left _ (List.mem_of_getElem? (l := B13) (i := 3) rfl)))))))))))))))
theorem k264 : Cond.code yM_count bM_count 1 (some .int) ∈ W0 := (List.mem_append_right _ (List.mem_append_right _ (List.mem_append_right _ (List.mem_append_right _ (List.mem_append_right _ (List.mem_append_right _ (List.mem_append_right _ (List.mem_append_right _ (List.mem_append_right _ (List.mem_append_right _ (List.mem_append_right _ (List.mem_append_right _ (List.mem_append_right _ (List.mem_append_left _ (List.mem_of_getElem? (l := B13) (i := 4) rfl)))))))))))))))
theorem k265 : Cond.methodLink "ImageGcdsLaw" 80 yL_poly ∈ W0 := (List.mem_append_right _ (List.mem_append_right _ (List.mem_append_right _ (List.mem_append_right _ (List.mem_append_right _ (List.mem_append_right _ (List.mem_append_right _ (List.mem_append_right _ (List.mem_append_right _ (List.mem_append_right _ (List.mem_append_right _ (List.mem_append_right _ (List.mem_append_right _ (List.mem_append_left _ (List.mem_of_getElem? (l := B13) (i := 5) rfl)))))))))))))))
theorem k266 : Cond.static yL_poly ∈ W0 := (List.mem_append_right _ (List.mem_append_right _ (List.mem_append_right _ (List.mem_append_right _ (List.mem_append_right _ (List.mem_append_right _ (List.mem_append_right _ (List.mem_append_right _ (List.mem_append_right _ (List.mem_append_right _ (List.mem_append_right _ (List.mem_append_right _ (List.mem_append_right _ (List.mem_append_left _ (List.mem_of_getElem? (l := B13) (i := 6) rfl)))))))))))))))
theorem k267 : Cond.codeWith yL_poly bL_poly 3 (some .int) [(0, 8, 11, 13)] ∈ W0 := (List.mem_append_right _ (List.mem_append_right _ (List.mem_append_right _ (List.mem_append_right _ (List.mem_append_right _ (List.mem_append_right _ (List.mem_append_right _ (List.mem_append_right _ (List.mem_append_right _ (List.mem_append_right _ (List.mem_append_right _ (List.mem_append_right _ (List.mem_append_right _ (List.mem_append_left _ (List.mem_of_getElem? (l := B13) (i := 7) rfl)))))))))))))))
theorem k268 : Cond.methodLink "ImageGcdsLaw" 83 yM_poly ∈ W0 := (List.mem_append_right _ (List.mem_append_right _ (List.mem_append_right _ (List.mem_append_right _ (List.mem_append_right _ (List.mem_append_right _ (List.mem_append_right _ (List.mem_append_right _ (List.mem_append_right _ (List.mem_append_right _ (List.mem_append_right _ (List.mem_append_right _ (List.mem_append_right _ (List.mem_append_left _ (List.mem_of_getElem? (l := B13) (i := 8) rfl)))))))))))))))
theorem k269 : Cond.instanceMethod yM_poly ∈ W0 := (List.mem_append_right _ (List.mem_append_right _ (List.mem_append_right _ (List.mem_append_right _ (List.mem_append_right _ (List.mem_append_right _ (List.mem_append_right _ (List.mem_append_right _ (List.mem_append_right _ (List.mem_append_right _ (List.mem_append_right _ (List.mem_append_right _ (List.mem_append_right _ (List.mem_append_left _ (List.mem_of_getElem? (l := B13) (i := 9) rfl)))))))))))))))
theorem k270 : Cond.selects "ImageGcdsModel" yM_poly yM_poly ∈ W0 := (List.mem_append_right _ (List.mem_append_right _ (List.mem_append_right _ (List.mem_append_right _ (List.mem_append_right _ (List.mem_append_right _ (List.mem_append_right _ (List.mem_append_right _ (List.mem_append_right _ (List.mem_append_right _ (List.mem_append_right _ (List.mem_append_right _ (List.mem_append_right _ (List.mem_append_left _ (List.mem_of_getElem? (l := B13) (i := 10) rfl)))))))))))))))
theorem k271 : Cond.code yM_poly bM_poly 1 (some .int) ∈ W0 := (List.mem_append_right _ (List.mem_append_right _ (List.mem_append_right _ (List.mem_append_right _ (List.mem_append_right _ (List.mem_append_right _ (List.mem_append_right _ (List.mem_append_right _ (List.mem_append_right _ (List.mem_append_right _ (List.mem_append_right _ (List.mem_append_right _ (List.mem_append_right _ (List.mem_append_left _ (List.mem_of_getElem? (l := B13) (i := 11) rfl)))))))))))))))
theorem k272 : Cond.instantiable "ImageGcds" 4 ∈ W0 := (List.mem_append_right _ (List.mem_append_right _ (List.mem_append_right _ (List.mem_append_right _ (List.mem_append_right _ (List.mem_append_right _ (List.mem_append_right _ (List.mem_append_right _ (List.mem_append_right _ (List.mem_append_right _ (List.mem_append_right _ (List.mem_append_right _ (List.mem_append_right _ (List.mem_append_left _ (List.mem_of_getElem? (l := B13) (i := 12) rfl)))))))))))))))
theorem k273 : Cond.instantiable "ImageGcdsModel" 25 ∈ W0 := (List.mem_append_right _ (List.mem_append_right _ (List.mem_append_right _ (List.mem_append_right _ (List.mem_append_right _ (List.mem_append_right _ (List.mem_append_right _ (List.mem_append_right _ (List.mem_append_right _ (List.mem_append_right _ (List.mem_append_right _ (List.mem_append_right _ (List.mem_append_right _ (List.mem_append_left _ (List.mem_of_getElem? (l := B13) (i := 13) rfl)))))))))))))))
theorem k274 : Cond.classLink "ImageGcdsLaw" 8 "ImageGcds" ∈ W0 := (List.mem_append_right _ (List.mem_append_right _ (List.mem_append_right _ (List.mem_append_right _ (List.mem_append_right _ (List.mem_append_right _ (List.mem_append_right _ (List.mem_append_right _ (List.mem_append_right _ (List.mem_append_right _ (List.mem_append_right _ (List.mem_append_right _ (List.mem_append_right _ (List.mem_append_left _ (List.mem_of_getElem? (l := B13) (i := 14) rfl)))))))))))))))
theorem k275 : Cond.methodLink "ImageGcdsLaw" 68 yL_cell ∈ W0 := (List.mem_append_right _ (List.mem_append_right _ (List.mem_append_right _ (List.mem_append_right _ (List.mem_append_right _ (List.mem_append_right _ (List.mem_append_right _ (List.mem_append_right _ (List.mem_append_right _ (List.mem_append_right _ (List.mem_append_right _ (List.mem_append_right _ (List.mem_append_right _ (List.mem_append_left _ (List.mem_of_getElem? (l := B13) (i := 15) rfl)))))))))))))))
theorem k276 : Cond.static yL_cell ∈ W0 := (List.mem_append_right _ (List.mem_append_right _ (List.mem_append_right _ (List.mem_append_right _ (List.mem_append_right _ (List.mem_append_right _ (List.mem_append_right _ (List.mem_append_right _ (List.mem_append_right _ (List.mem_append_right _ (List.mem_append_right _ (List.mem_append_right _ (List.mem_append_right _ (List.mem_append_left _ (List.mem_of_getElem? (l := B13) (i := 16) rfl)))))))))))))))
theorem k277 : Cond.code yL_cell bL_cell 2 (some .int) ∈ W0 := (List.mem_append_right _ (List.mem_append_right _ (List.mem_append_right _ (List.mem_append_right _ (List.mem_append_right _ (List.mem_append_right _ (List.mem_append_right _ (List.mem_append_right _ (List.mem_append_right _ (List.mem_append_right _ (List.mem_append_right _ (List.mem_append_right _ (List.mem_append_right _ (List.mem_append_left _ (List.mem_of_getElem? (l := B13) (i := 17) rfl)))))))))))))))
theorem k278 : Cond.code yG_init bG_init 2 none ∈ W0 := (List.mem_append_right _ (List.mem_append_right _ (List.mem_append_right _ (List.mem_append_right _ (List.mem_append_right _ (List.mem_append_right _ (List.mem_append_right _ (List.mem_append_right _ (List.mem_append_right _ (List.mem_append_right _ (List.mem_append_right _ (List.mem_append_right _ (List.mem_append_right _ (List.mem_append_left _ (List.mem_of_getElem? (l := B13) (i := 18) rfl)))))))))))))))
theorem k279 : Cond.methodLink "ImageGcdsLaw" 74 yG_init ∈ W0 := (List.mem_append_right _ (List.mem_append_right _ (List.mem_append_right _ (List.mem_append_right _ (List.mem_append_right _ (List.mem_append_right _ (List.mem_append_right _ (List.mem_append_right _ (List.mem_append_right _ (List.mem_append_right _ (List.mem_append_right _ (List.mem_append_right _ (List.mem_append_right _ (List.mem_append_left _ (List.mem_of_getElem? (l := B13) (i := 19) rfl)))))))))))))))
theorem k280 : Cond.instanceMethod yG_init ∈ W0 := (List.mem_append_right _ (List.mem_append_right _ (List.mem_append_right _ (List.mem_append_right _ (List.mem_append_right _ (List.mem_append_right _ (List.mem_append_right _ (List.mem_append_right _ (List.mem_append_right _ (List.mem_append_right _ (List.mem_append_right _ (List.mem_append_right _ (List.mem_append_right _ (List.mem_append_right _ (List.mem_append_left _ (List.mem_of_getElem? (l := B14) (i := 0) rfl))))))))))))))))
theorem k281 : Cond.classLink "ImageGcdsLaw" 77 "ImageGcdsModel" ∈ W0 := (List.mem_append_right _ (List.mem_append_right _ (List.mem_append_right _ (List.mem_append_right _ (List.mem_append_right _ (List.mem_append_right _ (List.mem_append_right _ (List.mem_append_right _ (List.mem_append_right _ (List.mem_append_right _ (List.mem_append_right _ (List.mem_append_right _ (List.mem_append_right _ (List.mem_append_right _ (List.mem_append_left _ (List.mem_of_getElem? (l := B14) (i := 1) rfl))))))))))))))))
theorem k282 : Cond.code yM_init bM_init 2 none ∈ W0 := (List.mem_append_right _ (List.mem_append_right _ (List.mem_append_right _ (List.mem_append_right _ (List.mem_append_right _ (List.mem_append_right _ (List.mem_append_right _ (List.mem_append_right _ (List.mem_append_right _ (List.mem_append_right _ (List.mem_append_right _ (List.mem_append_right _ (List.mem_append_right _ (List.mem_append_right _ (List.mem_append_left _ (List.mem_of_getElem? (l := B14) (i := 2) rfl))))))))))))))))
theorem k283 : Cond.methodLink "ImageGcdsLaw" 79 yM_init ∈ W0 := (List.mem_append_right _ (List.mem_append_right _ (List.mem_append_right _ (List.mem_append_right _ (List.mem_append_right _ (List.mem_append_right _ (List.mem_append_right _ (List.mem_append_right _ (List.mem_append_right _ (List.mem_append_right _ (List.mem_append_right _ (List.mem_append_right _ (List.mem_append_right _ (List.mem_append_right _ (List.mem_append_left _ (List.mem_of_getElem? (l := B14) (i := 3) rfl))))))))))))))))
theorem k284 : Cond.instanceMethod yM_init ∈ W0 := (List.mem_append_right _ (List.mem_append_right _ (List.mem_append_right _ (List.mem_append_right _ (List.mem_append_right _ (List.mem_append_right _ (List.mem_append_right _ (List.mem_append_right _ (List.mem_append_right _ (List.mem_append_right _ (List.mem_append_right _ (List.mem_append_right _ (List.mem_append_right _ (List.mem_append_right _ (List.mem_append_left _ (List.mem_of_getElem? (l := B14) (i := 4) rfl))))))))))))))))
theorem k285 : Cond.arrayClass .long ∈ W0 := (List.mem_append_right _ (List.mem_append_right _ (List.mem_append_right _ (List.mem_append_right _ (List.mem_append_right _ (List.mem_append_right _ (List.mem_append_right _ (List.mem_append_right _ (List.mem_append_right _ (List.mem_append_right _ (List.mem_append_right _ (List.mem_append_right _ (List.mem_append_right _ (List.mem_append_right _ (List.mem_append_left _ (List.mem_of_getElem? (l := B14) (i := 5) rfl))))))))))))))))
theorem uG : ∀ w ∈ wUG, w ∈ W0 := fun w h => (List.mem_append_right _ (List.mem_append_right _ (List.mem_append_right _ (List.mem_append_right _ (List.mem_append_right _ (List.mem_append_right _ (List.mem_append_right _ (List.mem_append_right _ (List.mem_append_right _ (List.mem_append_right _ (List.mem_append_right _ (List.mem_append_right _ (List.mem_append_right _ (List.mem_append_right _ (List.mem_append_right _ (List.mem_append_left _ h))))))))))))))))
theorem uP : ∀ w ∈ wUP, w ∈ W0 := fun w h => (List.mem_append_right _ (List.mem_append_right _ (List.mem_append_right _ (List.mem_append_right _ (List.mem_append_right _ (List.mem_append_right _ (List.mem_append_right _ (List.mem_append_right _ (List.mem_append_right _ (List.mem_append_right _ (List.mem_append_right _ (List.mem_append_right _ (List.mem_append_right _ (List.mem_append_right _ (List.mem_append_right _ (List.mem_append_right _ (List.mem_append_left _ h)))))))))))))))))
theorem uM : ∀ w ∈ wUM, w ∈ W0 := fun w h => (List.mem_append_right _ (List.mem_append_right _ (List.mem_append_right _ (List.mem_append_right _ (List.mem_append_right _ (List.mem_append_right _ (List.mem_append_right _ (List.mem_append_right _ (List.mem_append_right _ (List.mem_append_right _ (List.mem_append_right _ (List.mem_append_right _ (List.mem_append_right _ (List.mem_append_right _ (List.mem_append_right _ (List.mem_append_right _ (List.mem_append_right _ (List.mem_append_left _ h))))))))))))))))))
theorem thI : ∀ w ∈ thW, w ∈ W0 := fun w h => (List.mem_append_right _ (List.mem_append_right _ (List.mem_append_right _ (List.mem_append_right _ (List.mem_append_right _ (List.mem_append_right _ (List.mem_append_right _ (List.mem_append_right _ (List.mem_append_right _ (List.mem_append_right _ (List.mem_append_right _ (List.mem_append_right _ (List.mem_append_right _ (List.mem_append_right _ (List.mem_append_right _ (List.mem_append_right _ (List.mem_append_right _ (List.mem_append_right _ h))))))))))))))))))
theorem good_B0 : B0.all goodWord = true := by decide +kernel
theorem good_B1 : B1.all goodWord = true := by decide +kernel
theorem good_B2 : B2.all goodWord = true := by decide +kernel
theorem good_B3 : B3.all goodWord = true := by decide +kernel
theorem good_B4 : B4.all goodWord = true := by decide +kernel
theorem good_B5 : B5.all goodWord = true := by decide +kernel
theorem good_B6 : B6.all goodWord = true := by decide +kernel
theorem good_B7 : B7.all goodWord = true := by decide +kernel
theorem good_B8 : B8.all goodWord = true := by decide +kernel
theorem good_B9 : B9.all goodWord = true := by decide +kernel
theorem good_B10 : B10.all goodWord = true := by decide +kernel
theorem good_B11 : B11.all goodWord = true := by decide +kernel
theorem good_B12 : B12.all goodWord = true := by decide +kernel
theorem good_B13 : B13.all goodWord = true := by decide +kernel
theorem good_B14 : B14.all goodWord = true := by decide +kernel
theorem good_wUG : wUG.all goodWord = true := by decide +kernel
theorem good_wUP : wUP.all goodWord = true := by decide +kernel
theorem good_wUM : wUM.all goodWord = true := by decide +kernel
theorem good_thW : thW.all goodWord = true := by decide +kernel
theorem W0a : ∀ w ∈ W0, goodWord w = true := by
  intro w h
  unfold W0 at h
  simp only [List.mem_append] at h
  rcases h with h | h | h | h | h | h | h | h | h | h | h | h | h | h | h | h | h | h | h
  · exact List.all_eq_true.mp good_B0 w h
  · exact List.all_eq_true.mp good_B1 w h
  · exact List.all_eq_true.mp good_B2 w h
  · exact List.all_eq_true.mp good_B3 w h
  · exact List.all_eq_true.mp good_B4 w h
  · exact List.all_eq_true.mp good_B5 w h
  · exact List.all_eq_true.mp good_B6 w h
  · exact List.all_eq_true.mp good_B7 w h
  · exact List.all_eq_true.mp good_B8 w h
  · exact List.all_eq_true.mp good_B9 w h
  · exact List.all_eq_true.mp good_B10 w h
  · exact List.all_eq_true.mp good_B11 w h
  · exact List.all_eq_true.mp good_B12 w h
  · exact List.all_eq_true.mp good_B13 w h
  · exact List.all_eq_true.mp good_B14 w h
  · exact List.all_eq_true.mp good_wUG w h
  · exact List.all_eq_true.mp good_wUP w h
  · exact List.all_eq_true.mp good_wUM w h
  · exact List.all_eq_true.mp good_thW w h
theorem W0g : ∀ w ∈ W0, (w.onTables && w.keeps) = true ∨ ∃ ty, w = .arrayClass ty := fun w h => good_of_word (W0a w h)
theorem gW {ws : List Cond} (h : ∀ w ∈ ws, w ∈ W0) : GoodIn W0 ws := fun w hw => ⟨h w hw, W0g w (h w hw)⟩
theorem gC {x : Cond} (h5 : x ∈ W0) : ∀ w ∈ x :: W0, w ∈ W0 := fun w h => (List.mem_cons.mp h).elim (fun e => by rw [e]; exact h5) id
theorem gV {own : String} {idx : Nat} {C : String} {y : MethodName} {x : Cond} (h1 : Cond.methodLink own idx y ∈ W0) (h2 : Cond.instanceMethod y ∈ W0) (h3 : Cond.selects C y y ∈ W0) (h4 : Cond.initialized C ∈ W0) (h5 : x ∈ W0) : GoodIn W0 (wsV own idx C y (x :: W0)) := gW fun w h => by
  unfold wsV at h
  rcases List.mem_append.mp h with h | h
  · simp only [List.mem_cons, List.not_mem_nil, or_false] at h
    rcases h with rfl | rfl | rfl | rfl
    · exact h1
    · exact h2
    · exact h3
    · exact h4
  · exact gC h5 w h
theorem gS {own : String} {idx : Nat} {y : MethodName} {x : Cond} (h1 : Cond.methodLink own idx y ∈ W0) (h2 : Cond.static y ∈ W0) (h4 : Cond.initialized y.cls ∈ W0) (h5 : x ∈ W0) : GoodIn W0 (va_wsS own idx y (x :: W0)) := gW fun w h => by
  unfold va_wsS at h
  rcases List.mem_append.mp h with h | h
  · simp only [List.mem_cons, List.not_mem_nil, or_false] at h
    rcases h with rfl | rfl | rfl
    · exact h1
    · exact h2
    · exact h4
  · exact gC h5 w h
theorem gI {x : Cond} (h5 : x ∈ W0) : GoodIn W0 (x :: W0) := gW (gC h5)
def wG_held : List Cond := .code yG_held bG_held 2 (some (.object "ImageGcds$Poly")) :: W0
def wG_term : List Cond := .code yG_term bG_term 10 (some .boolean) :: W0
def wG_add : List Cond := .code yG_add bG_add 5 (some .int) :: W0
def wG_times : List Cond := .code yG_times bG_times 5 (some .int) :: W0
def wG_over : List Cond := .code yG_over bG_over 6 (some .int) :: W0
def wG_gcd : List Cond := .code yG_gcd bG_gcd 5 (some .int) :: W0
def wG_resultant : List Cond := .code yG_resultant bG_resultant 6 (some .int) :: W0
def wG_slope : List Cond := .code yG_slope bG_slope 4 (some .int) :: W0
def wG_content : List Cond := .code yG_content bG_content 4 (some .int) :: W0
def wG_part : List Cond := .code yG_part bG_part 4 (some .int) :: W0
def wG_image : List Cond := .code yG_image bG_image 5 (some .int) :: W0
def wG_equal : List Cond := .code yG_equal bG_equal 5 (some .boolean) :: W0
def wG_terms : List Cond := .code yG_terms bG_terms 2 (some .int) :: W0
def wG_at : List Cond := .code yG_at bG_at 5 (some .int) :: W0
def wG_degree : List Cond := .code yG_degree bG_degree 4 (some .int) :: W0
def wL_term : List Cond := .codeWith yL_term bL_term 9 (some .int) [(0, 22, 25, 19), (0, 22, 29, 21), (0, 22, 33, 23)] :: W0
def wL_add : List Cond := .codeWith yL_add bL_add 5 (some .int) [(0, 10, 13, 19), (0, 10, 17, 13)] :: W0
def wL_times : List Cond := .codeWith yL_times bL_times 5 (some .int) [(0, 10, 13, 19), (0, 10, 17, 13), (0, 10, 21, 21)] :: W0
def wL_over : List Cond := .codeWith yL_over bL_over 5 (some .int) [(0, 10, 13, 19), (0, 10, 17, 13)] :: W0
def wL_gcd : List Cond := .codeWith yL_gcd bL_gcd 5 (some .int) [(0, 10, 13, 19), (0, 10, 17, 13)] :: W0
def wL_resultant : List Cond := .codeWith yL_resultant bL_resultant 6 (some .int) [(0, 12, 15, 19), (0, 12, 19, 13), (0, 12, 23, 21)] :: W0
def wL_slope : List Cond := .codeWith yL_slope bL_slope 5 (some .int) [(0, 10, 13, 19), (0, 10, 17, 13), (0, 10, 21, 21)] :: W0
def wL_content : List Cond := .codeWith yL_content bL_content 5 (some .int) [(0, 10, 13, 19), (0, 10, 17, 13), (0, 10, 21, 21)] :: W0
def wL_part : List Cond := .codeWith yL_part bL_part 5 (some .int) [(0, 10, 13, 19), (0, 10, 17, 13), (0, 10, 21, 21)] :: W0
def wL_image : List Cond := .codeWith yL_image bL_image 6 (some .int) [(0, 12, 15, 19), (0, 12, 19, 13), (0, 12, 23, 21)] :: W0
def wL_equal : List Cond := .codeWith yL_equal bL_equal 5 (some .int) [(0, 17, 20, 19)] :: W0
def wL_terms : List Cond := .codeWith yL_terms bL_terms 4 (some .int) [(0, 9, 12, 19)] :: W0
def wL_at : List Cond := .codeWith yL_at bL_at 6 (some .int) [(0, 12, 15, 19), (0, 12, 19, 21)] :: W0
def wL_degree : List Cond := .codeWith yL_degree bL_degree 5 (some .int) [(0, 10, 13, 19), (0, 10, 17, 21)] :: W0
def wM_number : List Cond := .code yM_number bM_number 3 (some .int) :: W0
def wM_isPoly : List Cond := .code yM_isPoly bM_isPoly 2 (some .boolean) :: W0
def wM_isFull : List Cond := .code yM_isFull bM_isFull 1 (some .boolean) :: W0
def wM_isLetter : List Cond := .code yM_isLetter bM_isLetter 2 (some .boolean) :: W0
def wM_areNot : List Cond := .code yM_areNot bM_areNot 3 (some .boolean) :: W0
def wM_thrown : List Cond := .code yM_thrown bM_thrown 1 (some .int) :: W0
def wM_fails : List Cond := .code yM_fails bM_fails 4 (some .boolean) :: W0
def wM_count : List Cond := .code yM_count bM_count 1 (some .int) :: W0
def wM_term : List Cond := .code yM_term bM_term 9 (some .boolean) :: W0
def wM_add : List Cond := .code yM_add bM_add 4 (some .int) :: W0
def wM_times : List Cond := .code yM_times bM_times 3 (some .int) :: W0
def wM_over : List Cond := .code yM_over bM_over 3 (some .int) :: W0
def wM_gcd : List Cond := .code yM_gcd bM_gcd 3 (some .int) :: W0
def wM_resultant : List Cond := .code yM_resultant bM_resultant 12 (some .int) :: W0
def wM_slope : List Cond := .code yM_slope bM_slope 3 (some .int) :: W0
def wM_content : List Cond := .code yM_content bM_content 5 (some .int) :: W0
def wM_part : List Cond := .code yM_part bM_part 7 (some .int) :: W0
def wM_image : List Cond := .code yM_image bM_image 10 (some .int) :: W0
def wM_equal : List Cond := .code yM_equal bM_equal 5 (some .boolean) :: W0
def wM_terms : List Cond := .code yM_terms bM_terms 2 (some .int) :: W0
def wM_at : List Cond := .code yM_at bM_at 9 (some .int) :: W0
def wM_degree : List Cond := .code yM_degree bM_degree 4 (some .int) :: W0
def wG_init : List Cond := .code yG_init bG_init 2 none :: W0
def wM_init : List Cond := .code yM_init bM_init 2 none :: W0
def wP_init : List Cond := .code yP_init bP_init 3 none :: W0
def wG_count : List Cond := .code yG_count bG_count 1 (some .int) :: W0
def wL_cell : List Cond := .code yL_cell bL_cell 2 (some .int) :: W0
def wM_clear : List Cond := .code yM_clear bM_clear 3 none :: W0
def wM_copy : List Cond := .code yM_copy bM_copy 4 none :: W0
def wM_made : List Cond := .code yM_made bM_made 2 (some .int) :: W0
def wM_poly : List Cond := .code yM_poly bM_poly 1 (some .int) :: W0
def wG_requireRoom : List Cond := .code yG_requireRoom bG_requireRoom 1 none :: W0
def wG_keep : List Cond := .code yG_keep bG_keep 2 (some .int) :: W0
def wG_poly : List Cond := .code yG_poly bG_poly 1 (some .int) :: W0
def wL_poly : List Cond := .codeWith yL_poly bL_poly 3 (some .int) [(0, 8, 11, 13)] :: W0
def gU (dC : Nat → ClassId) (dI : Nat → Nat → Nat) (h0 : Nat) (le : Int32) (qp sa : Nat) (U : State) : Prop := va_P (dC, dI) cls9 [(h0, .inr (0, [.int le, .ref qp, .int 0, .null]))] U.heap ∧ va_K (dC, dI) cls9 [] U ∧ th_S U ∧ vk_R "ImageGcds" 139 "no such polynomial" sa U
theorem gU.go {dC : Nat → ClassId} {dI : Nat → Nat → Nat} {h0 : Nat} {le : Int32} {qp sa : Nat} {s U : State} (hW : s.WarmedH U.vm) (hH : ∀ q : Nat, q < s.heap.size → U.heap[q]? = s.heap[q]?) (h : gU dC dI h0 le qp sa s) : gU dC dI h0 le qp sa U :=
  ⟨h.1.kept (fun k x hx => hH x.1 ((h.1 k x hx).lt)), va_K.moved hW.alike h.2.1, h.2.2.1.go hW.alike hH, vk_R.warm hW h.2.2.2⟩
theorem gU.bl {dC : Nat → ClassId} {dI : Nat → Nat → Nat} {h0 : Nat} {le : Int32} {qp sa : Nat} {av : List Value} : FrameBlind (va_Pc av (gU dC dI h0 le qp sa)) := fun a U g mk q => ⟨q.1, gU.go (s := U) (U := U.calling g mk a) (State.WarmedH.refl U) (fun _ _ => rfl) q.2⟩
end
section
set_option maxHeartbeats 4000000 in
set_option maxRecDepth 100000 in
theorem cG_held (l : Launch) (htr : l.stackTraces = false) (dC : Nat → ClassId) (dI : Nat → Nat → Nat) (h0 : Nat) (le : Int32) (qp sa : Nat) (p0 : Int32) : th_Met l yG_held wG_held ({ frames := 6, cells := 1, slots := 6, locals := 82 }) (va_Pc [.ref h0, .int p0] (gU dC dI h0 le qp sa)) th_X 1 6 := by
  refine th_ofW (cc := bG_held) (maxL := 2) (ret := (some (.object "ImageGcds$Poly"))) (by decide) rfl ?_
  intro p e s m args below meth c s₁ B hml hno hv
  obtain ⟨rfl, hU⟩ := hv
  have hx := B.exec
  have hb := B.bytes
  have hr := B.returns
  have hts := atoms_spec (ws := wG_held) B.pre
  have hk : ∀ w ∈ W0, w.before _ s = true := fun w h => hts w (List.mem_cons_of_mem _ h)
  have hown : s.vm.findClass "ImageGcds" = some m.cls := findClass_of_methodNamed B.named
  have hlocks := B.notSynchronized
  have hl := lv_entry ([.ref h0, .int p0]) (n := 2) (Nat.le_of_ble_eq_true rfl)
  rw [lg_entry_eq]
  generalize (lg_sl ([.ref h0, .int p0]) ++ List.replicate (2 - (lg_sl ([.ref h0, .int p0])).length) Slot.unset).toArray = ls at hl ⊢
  have hl : lv_has ls 2 [(0, .ref h0), (1, .int p0)] := hl
  refine lv_iload_n hx hb dG_held_0 rfl (lv_at hl 1 rfl) ?_
  refine lv_if_lt (tgt := 21) hx hb dG_held_1 (by decide) (fun c1 => ?_) (fun c1 => ?_)
  · skip
    exact th_new hx hb hml htr hno (ic := 141) (ix := 137) (ik := 139) (own := "ImageGcds") (cls := th_X) (names := th_N) hown (by decide) (by decide) (th_good (fun w h => hk w (thI w h)) hU.2.2.1) (hk _ k0) (hk _ (thI _ (List.mem_filter.mpr ⟨by simp [Bundle.ownAtoms], rfl⟩))) (hk _ k1) hU.2.2.2 (Nat.le_refl _) hl.1 dG_held_21 dG_held_24 dG_held_25 dG_held_27 dG_held_30 (Nat.le_of_ble_eq_true rfl) (Nat.le_of_ble_eq_true rfl) (by decide) (by decide) hlocks
  · skip
    refine lv_iload_n hx hb dG_held_4 rfl (lv_at hl 1 rfl) ?_
    refine lv_aload_n hx hb dG_held_5 rfl (lv_at hl 0 rfl) ?_
    refine va_get (D := (dC, dI)) (ci := 0) (v := .int 0) (C := "ImageGcds") (T := TG) (N := 4) hx hb hk uG hown hU.2.1 hU.1 0 rfl rfl 2 (by decide) (hk _ k2) (fun _ h9 => h9) rfl dG_held_6 ?_
    refine lv_icmp_ge (tgt := 21) hx hb dG_held_9 (by decide) (fun c2 => ?_) (fun c2 => ?_)
    · skip
      exact th_new hx hb hml htr hno (ic := 141) (ix := 137) (ik := 139) (own := "ImageGcds") (cls := th_X) (names := th_N) hown (by decide) (by decide) (th_good (fun w h => hk w (thI w h)) hU.2.2.1) (hk _ k0) (hk _ (thI _ (List.mem_filter.mpr ⟨by simp [Bundle.ownAtoms], rfl⟩))) (hk _ k1) hU.2.2.2 (Nat.le_refl _) hl.1 dG_held_21 dG_held_24 dG_held_25 dG_held_27 dG_held_30 (Nat.le_of_ble_eq_true rfl) (Nat.le_of_ble_eq_true rfl) (by decide) (by decide) hlocks
    · skip
      exact absurd (Int32.not_lt.mp c1) c2
set_option maxHeartbeats 4000000 in
set_option maxRecDepth 100000 in
theorem cG_term (l : Launch) (htr : l.stackTraces = false) (dC : Nat → ClassId) (dI : Nat → Nat → Nat) (h0 : Nat) (le : Int32) (qp sa : Nat) (p0 : Int32) (p1 : Int64) (p2 : Int64) (p3 : Int32) : th_Met l yG_term wG_term ({ frames := 7, cells := 1, slots := 6, locals := 104 }) (va_Pc [.ref h0, .int p0, .long p1, .long p2, .int p3] (gU dC dI h0 le qp sa)) th_X 1 6 := by
  refine th_ofW (cc := bG_term) (maxL := 10) (ret := (some .boolean)) (by decide) rfl ?_
  intro p e s m args below meth c s₁ B hml hno hv
  obtain ⟨rfl, hU⟩ := hv
  have hx := B.exec
  have hb := B.bytes
  have hr := B.returns
  have hts := atoms_spec (ws := wG_term) B.pre
  have hk : ∀ w ∈ W0, w.before _ s = true := fun w h => hts w (List.mem_cons_of_mem _ h)
  have hown : s.vm.findClass "ImageGcds" = some m.cls := findClass_of_methodNamed B.named
  have hlocks := B.notSynchronized
  have hl := lv_entry ([.ref h0, .int p0, .long p1, .long p2, .int p3]) (n := 10) (Nat.le_of_ble_eq_true rfl)
  rw [lg_entry_eq]
  generalize (lg_sl ([.ref h0, .int p0, .long p1, .long p2, .int p3]) ++ List.replicate (10 - (lg_sl ([.ref h0, .int p0, .long p1, .long p2, .int p3])).length) Slot.unset).toArray = ls at hl ⊢
  have hl : lv_has ls 10 [(0, .ref h0), (1, .int p0), (2, .long p1), (4, .long p2), (6, .int p3)] := hl
  refine lv_aload_n hx hb dG_term_0 rfl (lv_at hl 0 rfl) ?_
  refine lv_iload_n hx hb dG_term_1 rfl (lv_at hl 1 rfl) ?_
  exact th_up hno rfl rfl rfl hlocks (th_runV (C := "ImageGcds") (As := [.int p0]) (rest := []) ⟨hx, hb, hml, hown, hk⟩ (cG_held l htr dC dI h0 le qp sa p0) (cwV 1 hk (gV k3 k4 k5 k6 k7) rfl rfl rfl (by decide +kernel) ⟨Nat.le_of_ble_eq_true rfl, Nat.le_of_ble_eq_true rfl⟩) ⟨gU.bl, va_recv hU.2.1 hU.1 (ci := 0) (q0 := 0) rfl rfl, fun U hU2 hW => ⟨rfl, hU.go hW (fun q _ => by rw [hU2])⟩⟩ rfl rfl hl.1 rfl (lv_room (Nat.le_of_ble_eq_true rfl)) dG_term_2 ⟨Nat.le_of_ble_eq_true rfl, Nat.le_of_ble_eq_true rfl⟩)
set_option maxHeartbeats 4000000 in
set_option maxRecDepth 100000 in
theorem cG_add (l : Launch) (htr : l.stackTraces = false) (dC : Nat → ClassId) (dI : Nat → Nat → Nat) (h0 : Nat) (le : Int32) (qp sa : Nat) (p0 : Int32) (p1 : Int32) : th_Met l yG_add wG_add ({ frames := 7, cells := 1, slots := 6, locals := 104 }) (va_Pc [.ref h0, .int p0, .int p1] (gU dC dI h0 le qp sa)) th_X 1 6 := by
  refine th_ofW (cc := bG_add) (maxL := 5) (ret := (some .int)) (by decide) rfl ?_
  intro p e s m args below meth c s₁ B hml hno hv
  obtain ⟨rfl, hU⟩ := hv
  have hx := B.exec
  have hb := B.bytes
  have hr := B.returns
  have hts := atoms_spec (ws := wG_add) B.pre
  have hk : ∀ w ∈ W0, w.before _ s = true := fun w h => hts w (List.mem_cons_of_mem _ h)
  have hown : s.vm.findClass "ImageGcds" = some m.cls := findClass_of_methodNamed B.named
  have hlocks := B.notSynchronized
  have hl := lv_entry ([.ref h0, .int p0, .int p1]) (n := 5) (Nat.le_of_ble_eq_true rfl)
  rw [lg_entry_eq]
  generalize (lg_sl ([.ref h0, .int p0, .int p1]) ++ List.replicate (5 - (lg_sl ([.ref h0, .int p0, .int p1])).length) Slot.unset).toArray = ls at hl ⊢
  have hl : lv_has ls 5 [(0, .ref h0), (1, .int p0), (2, .int p1)] := hl
  refine lv_aload_n hx hb dG_add_0 rfl (lv_at hl 0 rfl) ?_
  refine lv_iload_n hx hb dG_add_1 rfl (lv_at hl 1 rfl) ?_
  exact th_up hno rfl rfl rfl hlocks (th_runV (C := "ImageGcds") (As := [.int p0]) (rest := []) ⟨hx, hb, hml, hown, hk⟩ (cG_held l htr dC dI h0 le qp sa p0) (cwV 1 hk (gV k3 k4 k5 k6 k7) rfl rfl rfl (by decide +kernel) ⟨Nat.le_of_ble_eq_true rfl, Nat.le_of_ble_eq_true rfl⟩) ⟨gU.bl, va_recv hU.2.1 hU.1 (ci := 0) (q0 := 0) rfl rfl, fun U hU2 hW => ⟨rfl, hU.go hW (fun q _ => by rw [hU2])⟩⟩ rfl rfl hl.1 rfl (lv_room (Nat.le_of_ble_eq_true rfl)) dG_add_2 ⟨Nat.le_of_ble_eq_true rfl, Nat.le_of_ble_eq_true rfl⟩)
set_option maxHeartbeats 4000000 in
set_option maxRecDepth 100000 in
theorem cG_times (l : Launch) (htr : l.stackTraces = false) (dC : Nat → ClassId) (dI : Nat → Nat → Nat) (h0 : Nat) (le : Int32) (qp sa : Nat) (p0 : Int32) (p1 : Int32) : th_Met l yG_times wG_times ({ frames := 7, cells := 1, slots := 6, locals := 104 }) (va_Pc [.ref h0, .int p0, .int p1] (gU dC dI h0 le qp sa)) th_X 1 6 := by
  refine th_ofW (cc := bG_times) (maxL := 5) (ret := (some .int)) (by decide) rfl ?_
  intro p e s m args below meth c s₁ B hml hno hv
  obtain ⟨rfl, hU⟩ := hv
  have hx := B.exec
  have hb := B.bytes
  have hr := B.returns
  have hts := atoms_spec (ws := wG_times) B.pre
  have hk : ∀ w ∈ W0, w.before _ s = true := fun w h => hts w (List.mem_cons_of_mem _ h)
  have hown : s.vm.findClass "ImageGcds" = some m.cls := findClass_of_methodNamed B.named
  have hlocks := B.notSynchronized
  have hl := lv_entry ([.ref h0, .int p0, .int p1]) (n := 5) (Nat.le_of_ble_eq_true rfl)
  rw [lg_entry_eq]
  generalize (lg_sl ([.ref h0, .int p0, .int p1]) ++ List.replicate (5 - (lg_sl ([.ref h0, .int p0, .int p1])).length) Slot.unset).toArray = ls at hl ⊢
  have hl : lv_has ls 5 [(0, .ref h0), (1, .int p0), (2, .int p1)] := hl
  refine lv_aload_n hx hb dG_times_0 rfl (lv_at hl 0 rfl) ?_
  refine lv_iload_n hx hb dG_times_1 rfl (lv_at hl 1 rfl) ?_
  exact th_up hno rfl rfl rfl hlocks (th_runV (C := "ImageGcds") (As := [.int p0]) (rest := []) ⟨hx, hb, hml, hown, hk⟩ (cG_held l htr dC dI h0 le qp sa p0) (cwV 1 hk (gV k3 k4 k5 k6 k7) rfl rfl rfl (by decide +kernel) ⟨Nat.le_of_ble_eq_true rfl, Nat.le_of_ble_eq_true rfl⟩) ⟨gU.bl, va_recv hU.2.1 hU.1 (ci := 0) (q0 := 0) rfl rfl, fun U hU2 hW => ⟨rfl, hU.go hW (fun q _ => by rw [hU2])⟩⟩ rfl rfl hl.1 rfl (lv_room (Nat.le_of_ble_eq_true rfl)) dG_times_2 ⟨Nat.le_of_ble_eq_true rfl, Nat.le_of_ble_eq_true rfl⟩)
set_option maxHeartbeats 4000000 in
set_option maxRecDepth 100000 in
theorem cG_over (l : Launch) (htr : l.stackTraces = false) (dC : Nat → ClassId) (dI : Nat → Nat → Nat) (h0 : Nat) (le : Int32) (qp sa : Nat) (p0 : Int32) (p1 : Int32) : th_Met l yG_over wG_over ({ frames := 7, cells := 1, slots := 6, locals := 104 }) (va_Pc [.ref h0, .int p0, .int p1] (gU dC dI h0 le qp sa)) th_X 1 6 := by
  refine th_ofW (cc := bG_over) (maxL := 6) (ret := (some .int)) (by decide) rfl ?_
  intro p e s m args below meth c s₁ B hml hno hv
  obtain ⟨rfl, hU⟩ := hv
  have hx := B.exec
  have hb := B.bytes
  have hr := B.returns
  have hts := atoms_spec (ws := wG_over) B.pre
  have hk : ∀ w ∈ W0, w.before _ s = true := fun w h => hts w (List.mem_cons_of_mem _ h)
  have hown : s.vm.findClass "ImageGcds" = some m.cls := findClass_of_methodNamed B.named
  have hlocks := B.notSynchronized
  have hl := lv_entry ([.ref h0, .int p0, .int p1]) (n := 6) (Nat.le_of_ble_eq_true rfl)
  rw [lg_entry_eq]
  generalize (lg_sl ([.ref h0, .int p0, .int p1]) ++ List.replicate (6 - (lg_sl ([.ref h0, .int p0, .int p1])).length) Slot.unset).toArray = ls at hl ⊢
  have hl : lv_has ls 6 [(0, .ref h0), (1, .int p0), (2, .int p1)] := hl
  refine lv_aload_n hx hb dG_over_0 rfl (lv_at hl 0 rfl) ?_
  refine lv_iload_n hx hb dG_over_1 rfl (lv_at hl 1 rfl) ?_
  exact th_up hno rfl rfl rfl hlocks (th_runV (C := "ImageGcds") (As := [.int p0]) (rest := []) ⟨hx, hb, hml, hown, hk⟩ (cG_held l htr dC dI h0 le qp sa p0) (cwV 1 hk (gV k3 k4 k5 k6 k7) rfl rfl rfl (by decide +kernel) ⟨Nat.le_of_ble_eq_true rfl, Nat.le_of_ble_eq_true rfl⟩) ⟨gU.bl, va_recv hU.2.1 hU.1 (ci := 0) (q0 := 0) rfl rfl, fun U hU2 hW => ⟨rfl, hU.go hW (fun q _ => by rw [hU2])⟩⟩ rfl rfl hl.1 rfl (lv_room (Nat.le_of_ble_eq_true rfl)) dG_over_2 ⟨Nat.le_of_ble_eq_true rfl, Nat.le_of_ble_eq_true rfl⟩)
set_option maxHeartbeats 4000000 in
set_option maxRecDepth 100000 in
theorem cG_gcd (l : Launch) (htr : l.stackTraces = false) (dC : Nat → ClassId) (dI : Nat → Nat → Nat) (h0 : Nat) (le : Int32) (qp sa : Nat) (p0 : Int32) (p1 : Int32) : th_Met l yG_gcd wG_gcd ({ frames := 7, cells := 1, slots := 6, locals := 104 }) (va_Pc [.ref h0, .int p0, .int p1] (gU dC dI h0 le qp sa)) th_X 1 6 := by
  refine th_ofW (cc := bG_gcd) (maxL := 5) (ret := (some .int)) (by decide) rfl ?_
  intro p e s m args below meth c s₁ B hml hno hv
  obtain ⟨rfl, hU⟩ := hv
  have hx := B.exec
  have hb := B.bytes
  have hr := B.returns
  have hts := atoms_spec (ws := wG_gcd) B.pre
  have hk : ∀ w ∈ W0, w.before _ s = true := fun w h => hts w (List.mem_cons_of_mem _ h)
  have hown : s.vm.findClass "ImageGcds" = some m.cls := findClass_of_methodNamed B.named
  have hlocks := B.notSynchronized
  have hl := lv_entry ([.ref h0, .int p0, .int p1]) (n := 5) (Nat.le_of_ble_eq_true rfl)
  rw [lg_entry_eq]
  generalize (lg_sl ([.ref h0, .int p0, .int p1]) ++ List.replicate (5 - (lg_sl ([.ref h0, .int p0, .int p1])).length) Slot.unset).toArray = ls at hl ⊢
  have hl : lv_has ls 5 [(0, .ref h0), (1, .int p0), (2, .int p1)] := hl
  refine lv_aload_n hx hb dG_gcd_0 rfl (lv_at hl 0 rfl) ?_
  refine lv_iload_n hx hb dG_gcd_1 rfl (lv_at hl 1 rfl) ?_
  exact th_up hno rfl rfl rfl hlocks (th_runV (C := "ImageGcds") (As := [.int p0]) (rest := []) ⟨hx, hb, hml, hown, hk⟩ (cG_held l htr dC dI h0 le qp sa p0) (cwV 1 hk (gV k3 k4 k5 k6 k7) rfl rfl rfl (by decide +kernel) ⟨Nat.le_of_ble_eq_true rfl, Nat.le_of_ble_eq_true rfl⟩) ⟨gU.bl, va_recv hU.2.1 hU.1 (ci := 0) (q0 := 0) rfl rfl, fun U hU2 hW => ⟨rfl, hU.go hW (fun q _ => by rw [hU2])⟩⟩ rfl rfl hl.1 rfl (lv_room (Nat.le_of_ble_eq_true rfl)) dG_gcd_2 ⟨Nat.le_of_ble_eq_true rfl, Nat.le_of_ble_eq_true rfl⟩)
set_option maxHeartbeats 4000000 in
set_option maxRecDepth 100000 in
theorem cG_resultant (l : Launch) (htr : l.stackTraces = false) (dC : Nat → ClassId) (dI : Nat → Nat → Nat) (h0 : Nat) (le : Int32) (qp sa : Nat) (p0 : Int32) (p1 : Int32) (p2 : Int32) : th_Met l yG_resultant wG_resultant ({ frames := 7, cells := 1, slots := 6, locals := 104 }) (va_Pc [.ref h0, .int p0, .int p1, .int p2] (gU dC dI h0 le qp sa)) th_X 1 6 := by
  refine th_ofW (cc := bG_resultant) (maxL := 6) (ret := (some .int)) (by decide) rfl ?_
  intro p e s m args below meth c s₁ B hml hno hv
  obtain ⟨rfl, hU⟩ := hv
  have hx := B.exec
  have hb := B.bytes
  have hr := B.returns
  have hts := atoms_spec (ws := wG_resultant) B.pre
  have hk : ∀ w ∈ W0, w.before _ s = true := fun w h => hts w (List.mem_cons_of_mem _ h)
  have hown : s.vm.findClass "ImageGcds" = some m.cls := findClass_of_methodNamed B.named
  have hlocks := B.notSynchronized
  have hl := lv_entry ([.ref h0, .int p0, .int p1, .int p2]) (n := 6) (Nat.le_of_ble_eq_true rfl)
  rw [lg_entry_eq]
  generalize (lg_sl ([.ref h0, .int p0, .int p1, .int p2]) ++ List.replicate (6 - (lg_sl ([.ref h0, .int p0, .int p1, .int p2])).length) Slot.unset).toArray = ls at hl ⊢
  have hl : lv_has ls 6 [(0, .ref h0), (1, .int p0), (2, .int p1), (3, .int p2)] := hl
  refine lv_aload_n hx hb dG_resultant_0 rfl (lv_at hl 0 rfl) ?_
  refine lv_iload_n hx hb dG_resultant_1 rfl (lv_at hl 1 rfl) ?_
  exact th_up hno rfl rfl rfl hlocks (th_runV (C := "ImageGcds") (As := [.int p0]) (rest := []) ⟨hx, hb, hml, hown, hk⟩ (cG_held l htr dC dI h0 le qp sa p0) (cwV 1 hk (gV k3 k4 k5 k6 k7) rfl rfl rfl (by decide +kernel) ⟨Nat.le_of_ble_eq_true rfl, Nat.le_of_ble_eq_true rfl⟩) ⟨gU.bl, va_recv hU.2.1 hU.1 (ci := 0) (q0 := 0) rfl rfl, fun U hU2 hW => ⟨rfl, hU.go hW (fun q _ => by rw [hU2])⟩⟩ rfl rfl hl.1 rfl (lv_room (Nat.le_of_ble_eq_true rfl)) dG_resultant_2 ⟨Nat.le_of_ble_eq_true rfl, Nat.le_of_ble_eq_true rfl⟩)
set_option maxHeartbeats 4000000 in
set_option maxRecDepth 100000 in
theorem cG_slope (l : Launch) (htr : l.stackTraces = false) (dC : Nat → ClassId) (dI : Nat → Nat → Nat) (h0 : Nat) (le : Int32) (qp sa : Nat) (p0 : Int32) (p1 : Int32) : th_Met l yG_slope wG_slope ({ frames := 7, cells := 1, slots := 6, locals := 104 }) (va_Pc [.ref h0, .int p0, .int p1] (gU dC dI h0 le qp sa)) th_X 1 6 := by
  refine th_ofW (cc := bG_slope) (maxL := 4) (ret := (some .int)) (by decide) rfl ?_
  intro p e s m args below meth c s₁ B hml hno hv
  obtain ⟨rfl, hU⟩ := hv
  have hx := B.exec
  have hb := B.bytes
  have hr := B.returns
  have hts := atoms_spec (ws := wG_slope) B.pre
  have hk : ∀ w ∈ W0, w.before _ s = true := fun w h => hts w (List.mem_cons_of_mem _ h)
  have hown : s.vm.findClass "ImageGcds" = some m.cls := findClass_of_methodNamed B.named
  have hlocks := B.notSynchronized
  have hl := lv_entry ([.ref h0, .int p0, .int p1]) (n := 4) (Nat.le_of_ble_eq_true rfl)
  rw [lg_entry_eq]
  generalize (lg_sl ([.ref h0, .int p0, .int p1]) ++ List.replicate (4 - (lg_sl ([.ref h0, .int p0, .int p1])).length) Slot.unset).toArray = ls at hl ⊢
  have hl : lv_has ls 4 [(0, .ref h0), (1, .int p0), (2, .int p1)] := hl
  refine lv_aload_n hx hb dG_slope_0 rfl (lv_at hl 0 rfl) ?_
  refine lv_iload_n hx hb dG_slope_1 rfl (lv_at hl 1 rfl) ?_
  exact th_up hno rfl rfl rfl hlocks (th_runV (C := "ImageGcds") (As := [.int p0]) (rest := []) ⟨hx, hb, hml, hown, hk⟩ (cG_held l htr dC dI h0 le qp sa p0) (cwV 1 hk (gV k3 k4 k5 k6 k7) rfl rfl rfl (by decide +kernel) ⟨Nat.le_of_ble_eq_true rfl, Nat.le_of_ble_eq_true rfl⟩) ⟨gU.bl, va_recv hU.2.1 hU.1 (ci := 0) (q0 := 0) rfl rfl, fun U hU2 hW => ⟨rfl, hU.go hW (fun q _ => by rw [hU2])⟩⟩ rfl rfl hl.1 rfl (lv_room (Nat.le_of_ble_eq_true rfl)) dG_slope_2 ⟨Nat.le_of_ble_eq_true rfl, Nat.le_of_ble_eq_true rfl⟩)
set_option maxHeartbeats 4000000 in
set_option maxRecDepth 100000 in
theorem cG_content (l : Launch) (htr : l.stackTraces = false) (dC : Nat → ClassId) (dI : Nat → Nat → Nat) (h0 : Nat) (le : Int32) (qp sa : Nat) (p0 : Int32) (p1 : Int32) : th_Met l yG_content wG_content ({ frames := 7, cells := 1, slots := 6, locals := 104 }) (va_Pc [.ref h0, .int p0, .int p1] (gU dC dI h0 le qp sa)) th_X 1 6 := by
  refine th_ofW (cc := bG_content) (maxL := 4) (ret := (some .int)) (by decide) rfl ?_
  intro p e s m args below meth c s₁ B hml hno hv
  obtain ⟨rfl, hU⟩ := hv
  have hx := B.exec
  have hb := B.bytes
  have hr := B.returns
  have hts := atoms_spec (ws := wG_content) B.pre
  have hk : ∀ w ∈ W0, w.before _ s = true := fun w h => hts w (List.mem_cons_of_mem _ h)
  have hown : s.vm.findClass "ImageGcds" = some m.cls := findClass_of_methodNamed B.named
  have hlocks := B.notSynchronized
  have hl := lv_entry ([.ref h0, .int p0, .int p1]) (n := 4) (Nat.le_of_ble_eq_true rfl)
  rw [lg_entry_eq]
  generalize (lg_sl ([.ref h0, .int p0, .int p1]) ++ List.replicate (4 - (lg_sl ([.ref h0, .int p0, .int p1])).length) Slot.unset).toArray = ls at hl ⊢
  have hl : lv_has ls 4 [(0, .ref h0), (1, .int p0), (2, .int p1)] := hl
  refine lv_aload_n hx hb dG_content_0 rfl (lv_at hl 0 rfl) ?_
  refine lv_iload_n hx hb dG_content_1 rfl (lv_at hl 1 rfl) ?_
  exact th_up hno rfl rfl rfl hlocks (th_runV (C := "ImageGcds") (As := [.int p0]) (rest := []) ⟨hx, hb, hml, hown, hk⟩ (cG_held l htr dC dI h0 le qp sa p0) (cwV 1 hk (gV k3 k4 k5 k6 k7) rfl rfl rfl (by decide +kernel) ⟨Nat.le_of_ble_eq_true rfl, Nat.le_of_ble_eq_true rfl⟩) ⟨gU.bl, va_recv hU.2.1 hU.1 (ci := 0) (q0 := 0) rfl rfl, fun U hU2 hW => ⟨rfl, hU.go hW (fun q _ => by rw [hU2])⟩⟩ rfl rfl hl.1 rfl (lv_room (Nat.le_of_ble_eq_true rfl)) dG_content_2 ⟨Nat.le_of_ble_eq_true rfl, Nat.le_of_ble_eq_true rfl⟩)
set_option maxHeartbeats 4000000 in
set_option maxRecDepth 100000 in
theorem cG_part (l : Launch) (htr : l.stackTraces = false) (dC : Nat → ClassId) (dI : Nat → Nat → Nat) (h0 : Nat) (le : Int32) (qp sa : Nat) (p0 : Int32) (p1 : Int32) : th_Met l yG_part wG_part ({ frames := 7, cells := 1, slots := 6, locals := 104 }) (va_Pc [.ref h0, .int p0, .int p1] (gU dC dI h0 le qp sa)) th_X 1 6 := by
  refine th_ofW (cc := bG_part) (maxL := 4) (ret := (some .int)) (by decide) rfl ?_
  intro p e s m args below meth c s₁ B hml hno hv
  obtain ⟨rfl, hU⟩ := hv
  have hx := B.exec
  have hb := B.bytes
  have hr := B.returns
  have hts := atoms_spec (ws := wG_part) B.pre
  have hk : ∀ w ∈ W0, w.before _ s = true := fun w h => hts w (List.mem_cons_of_mem _ h)
  have hown : s.vm.findClass "ImageGcds" = some m.cls := findClass_of_methodNamed B.named
  have hlocks := B.notSynchronized
  have hl := lv_entry ([.ref h0, .int p0, .int p1]) (n := 4) (Nat.le_of_ble_eq_true rfl)
  rw [lg_entry_eq]
  generalize (lg_sl ([.ref h0, .int p0, .int p1]) ++ List.replicate (4 - (lg_sl ([.ref h0, .int p0, .int p1])).length) Slot.unset).toArray = ls at hl ⊢
  have hl : lv_has ls 4 [(0, .ref h0), (1, .int p0), (2, .int p1)] := hl
  refine lv_aload_n hx hb dG_part_0 rfl (lv_at hl 0 rfl) ?_
  refine lv_iload_n hx hb dG_part_1 rfl (lv_at hl 1 rfl) ?_
  exact th_up hno rfl rfl rfl hlocks (th_runV (C := "ImageGcds") (As := [.int p0]) (rest := []) ⟨hx, hb, hml, hown, hk⟩ (cG_held l htr dC dI h0 le qp sa p0) (cwV 1 hk (gV k3 k4 k5 k6 k7) rfl rfl rfl (by decide +kernel) ⟨Nat.le_of_ble_eq_true rfl, Nat.le_of_ble_eq_true rfl⟩) ⟨gU.bl, va_recv hU.2.1 hU.1 (ci := 0) (q0 := 0) rfl rfl, fun U hU2 hW => ⟨rfl, hU.go hW (fun q _ => by rw [hU2])⟩⟩ rfl rfl hl.1 rfl (lv_room (Nat.le_of_ble_eq_true rfl)) dG_part_2 ⟨Nat.le_of_ble_eq_true rfl, Nat.le_of_ble_eq_true rfl⟩)
set_option maxHeartbeats 4000000 in
set_option maxRecDepth 100000 in
theorem cG_image (l : Launch) (htr : l.stackTraces = false) (dC : Nat → ClassId) (dI : Nat → Nat → Nat) (h0 : Nat) (le : Int32) (qp sa : Nat) (p0 : Int32) (p1 : Int32) (p2 : Int32) : th_Met l yG_image wG_image ({ frames := 7, cells := 1, slots := 6, locals := 104 }) (va_Pc [.ref h0, .int p0, .int p1, .int p2] (gU dC dI h0 le qp sa)) th_X 1 6 := by
  refine th_ofW (cc := bG_image) (maxL := 5) (ret := (some .int)) (by decide) rfl ?_
  intro p e s m args below meth c s₁ B hml hno hv
  obtain ⟨rfl, hU⟩ := hv
  have hx := B.exec
  have hb := B.bytes
  have hr := B.returns
  have hts := atoms_spec (ws := wG_image) B.pre
  have hk : ∀ w ∈ W0, w.before _ s = true := fun w h => hts w (List.mem_cons_of_mem _ h)
  have hown : s.vm.findClass "ImageGcds" = some m.cls := findClass_of_methodNamed B.named
  have hlocks := B.notSynchronized
  have hl := lv_entry ([.ref h0, .int p0, .int p1, .int p2]) (n := 5) (Nat.le_of_ble_eq_true rfl)
  rw [lg_entry_eq]
  generalize (lg_sl ([.ref h0, .int p0, .int p1, .int p2]) ++ List.replicate (5 - (lg_sl ([.ref h0, .int p0, .int p1, .int p2])).length) Slot.unset).toArray = ls at hl ⊢
  have hl : lv_has ls 5 [(0, .ref h0), (1, .int p0), (2, .int p1), (3, .int p2)] := hl
  refine lv_aload_n hx hb dG_image_0 rfl (lv_at hl 0 rfl) ?_
  refine lv_iload_n hx hb dG_image_1 rfl (lv_at hl 1 rfl) ?_
  exact th_up hno rfl rfl rfl hlocks (th_runV (C := "ImageGcds") (As := [.int p0]) (rest := []) ⟨hx, hb, hml, hown, hk⟩ (cG_held l htr dC dI h0 le qp sa p0) (cwV 1 hk (gV k3 k4 k5 k6 k7) rfl rfl rfl (by decide +kernel) ⟨Nat.le_of_ble_eq_true rfl, Nat.le_of_ble_eq_true rfl⟩) ⟨gU.bl, va_recv hU.2.1 hU.1 (ci := 0) (q0 := 0) rfl rfl, fun U hU2 hW => ⟨rfl, hU.go hW (fun q _ => by rw [hU2])⟩⟩ rfl rfl hl.1 rfl (lv_room (Nat.le_of_ble_eq_true rfl)) dG_image_2 ⟨Nat.le_of_ble_eq_true rfl, Nat.le_of_ble_eq_true rfl⟩)
set_option maxHeartbeats 4000000 in
set_option maxRecDepth 100000 in
theorem cG_equal (l : Launch) (htr : l.stackTraces = false) (dC : Nat → ClassId) (dI : Nat → Nat → Nat) (h0 : Nat) (le : Int32) (qp sa : Nat) (p0 : Int32) (p1 : Int32) : th_Met l yG_equal wG_equal ({ frames := 7, cells := 1, slots := 6, locals := 104 }) (va_Pc [.ref h0, .int p0, .int p1] (gU dC dI h0 le qp sa)) th_X 1 6 := by
  refine th_ofW (cc := bG_equal) (maxL := 5) (ret := (some .boolean)) (by decide) rfl ?_
  intro p e s m args below meth c s₁ B hml hno hv
  obtain ⟨rfl, hU⟩ := hv
  have hx := B.exec
  have hb := B.bytes
  have hr := B.returns
  have hts := atoms_spec (ws := wG_equal) B.pre
  have hk : ∀ w ∈ W0, w.before _ s = true := fun w h => hts w (List.mem_cons_of_mem _ h)
  have hown : s.vm.findClass "ImageGcds" = some m.cls := findClass_of_methodNamed B.named
  have hlocks := B.notSynchronized
  have hl := lv_entry ([.ref h0, .int p0, .int p1]) (n := 5) (Nat.le_of_ble_eq_true rfl)
  rw [lg_entry_eq]
  generalize (lg_sl ([.ref h0, .int p0, .int p1]) ++ List.replicate (5 - (lg_sl ([.ref h0, .int p0, .int p1])).length) Slot.unset).toArray = ls at hl ⊢
  have hl : lv_has ls 5 [(0, .ref h0), (1, .int p0), (2, .int p1)] := hl
  refine lv_aload_n hx hb dG_equal_0 rfl (lv_at hl 0 rfl) ?_
  refine lv_iload_n hx hb dG_equal_1 rfl (lv_at hl 1 rfl) ?_
  exact th_up hno rfl rfl rfl hlocks (th_runV (C := "ImageGcds") (As := [.int p0]) (rest := []) ⟨hx, hb, hml, hown, hk⟩ (cG_held l htr dC dI h0 le qp sa p0) (cwV 1 hk (gV k3 k4 k5 k6 k7) rfl rfl rfl (by decide +kernel) ⟨Nat.le_of_ble_eq_true rfl, Nat.le_of_ble_eq_true rfl⟩) ⟨gU.bl, va_recv hU.2.1 hU.1 (ci := 0) (q0 := 0) rfl rfl, fun U hU2 hW => ⟨rfl, hU.go hW (fun q _ => by rw [hU2])⟩⟩ rfl rfl hl.1 rfl (lv_room (Nat.le_of_ble_eq_true rfl)) dG_equal_2 ⟨Nat.le_of_ble_eq_true rfl, Nat.le_of_ble_eq_true rfl⟩)
set_option maxHeartbeats 4000000 in
set_option maxRecDepth 100000 in
theorem cG_terms (l : Launch) (htr : l.stackTraces = false) (dC : Nat → ClassId) (dI : Nat → Nat → Nat) (h0 : Nat) (le : Int32) (qp sa : Nat) (p0 : Int32) : th_Met l yG_terms wG_terms ({ frames := 7, cells := 1, slots := 6, locals := 104 }) (va_Pc [.ref h0, .int p0] (gU dC dI h0 le qp sa)) th_X 1 6 := by
  refine th_ofW (cc := bG_terms) (maxL := 2) (ret := (some .int)) (by decide) rfl ?_
  intro p e s m args below meth c s₁ B hml hno hv
  obtain ⟨rfl, hU⟩ := hv
  have hx := B.exec
  have hb := B.bytes
  have hr := B.returns
  have hts := atoms_spec (ws := wG_terms) B.pre
  have hk : ∀ w ∈ W0, w.before _ s = true := fun w h => hts w (List.mem_cons_of_mem _ h)
  have hown : s.vm.findClass "ImageGcds" = some m.cls := findClass_of_methodNamed B.named
  have hlocks := B.notSynchronized
  have hl := lv_entry ([.ref h0, .int p0]) (n := 2) (Nat.le_of_ble_eq_true rfl)
  rw [lg_entry_eq]
  generalize (lg_sl ([.ref h0, .int p0]) ++ List.replicate (2 - (lg_sl ([.ref h0, .int p0])).length) Slot.unset).toArray = ls at hl ⊢
  have hl : lv_has ls 2 [(0, .ref h0), (1, .int p0)] := hl
  refine lv_aload_n hx hb dG_terms_0 rfl (lv_at hl 0 rfl) ?_
  refine lv_iload_n hx hb dG_terms_1 rfl (lv_at hl 1 rfl) ?_
  exact th_up hno rfl rfl rfl hlocks (th_runV (C := "ImageGcds") (As := [.int p0]) (rest := []) ⟨hx, hb, hml, hown, hk⟩ (cG_held l htr dC dI h0 le qp sa p0) (cwV 1 hk (gV k3 k4 k5 k6 k7) rfl rfl rfl (by decide +kernel) ⟨Nat.le_of_ble_eq_true rfl, Nat.le_of_ble_eq_true rfl⟩) ⟨gU.bl, va_recv hU.2.1 hU.1 (ci := 0) (q0 := 0) rfl rfl, fun U hU2 hW => ⟨rfl, hU.go hW (fun q _ => by rw [hU2])⟩⟩ rfl rfl hl.1 rfl (lv_room (Nat.le_of_ble_eq_true rfl)) dG_terms_2 ⟨Nat.le_of_ble_eq_true rfl, Nat.le_of_ble_eq_true rfl⟩)
set_option maxHeartbeats 4000000 in
set_option maxRecDepth 100000 in
theorem cG_at (l : Launch) (htr : l.stackTraces = false) (dC : Nat → ClassId) (dI : Nat → Nat → Nat) (h0 : Nat) (le : Int32) (qp sa : Nat) (p0 : Int32) (p1 : Int32) (p2 : Int32) : th_Met l yG_at wG_at ({ frames := 7, cells := 1, slots := 6, locals := 104 }) (va_Pc [.ref h0, .int p0, .int p1, .int p2] (gU dC dI h0 le qp sa)) th_X 1 6 := by
  refine th_ofW (cc := bG_at) (maxL := 5) (ret := (some .int)) (by decide) rfl ?_
  intro p e s m args below meth c s₁ B hml hno hv
  obtain ⟨rfl, hU⟩ := hv
  have hx := B.exec
  have hb := B.bytes
  have hr := B.returns
  have hts := atoms_spec (ws := wG_at) B.pre
  have hk : ∀ w ∈ W0, w.before _ s = true := fun w h => hts w (List.mem_cons_of_mem _ h)
  have hown : s.vm.findClass "ImageGcds" = some m.cls := findClass_of_methodNamed B.named
  have hlocks := B.notSynchronized
  have hl := lv_entry ([.ref h0, .int p0, .int p1, .int p2]) (n := 5) (Nat.le_of_ble_eq_true rfl)
  rw [lg_entry_eq]
  generalize (lg_sl ([.ref h0, .int p0, .int p1, .int p2]) ++ List.replicate (5 - (lg_sl ([.ref h0, .int p0, .int p1, .int p2])).length) Slot.unset).toArray = ls at hl ⊢
  have hl : lv_has ls 5 [(0, .ref h0), (1, .int p0), (2, .int p1), (3, .int p2)] := hl
  refine lv_aload_n hx hb dG_at_0 rfl (lv_at hl 0 rfl) ?_
  refine lv_iload_n hx hb dG_at_1 rfl (lv_at hl 1 rfl) ?_
  exact th_up hno rfl rfl rfl hlocks (th_runV (C := "ImageGcds") (As := [.int p0]) (rest := []) ⟨hx, hb, hml, hown, hk⟩ (cG_held l htr dC dI h0 le qp sa p0) (cwV 1 hk (gV k3 k4 k5 k6 k7) rfl rfl rfl (by decide +kernel) ⟨Nat.le_of_ble_eq_true rfl, Nat.le_of_ble_eq_true rfl⟩) ⟨gU.bl, va_recv hU.2.1 hU.1 (ci := 0) (q0 := 0) rfl rfl, fun U hU2 hW => ⟨rfl, hU.go hW (fun q _ => by rw [hU2])⟩⟩ rfl rfl hl.1 rfl (lv_room (Nat.le_of_ble_eq_true rfl)) dG_at_2 ⟨Nat.le_of_ble_eq_true rfl, Nat.le_of_ble_eq_true rfl⟩)
set_option maxHeartbeats 4000000 in
set_option maxRecDepth 100000 in
theorem cG_degree (l : Launch) (htr : l.stackTraces = false) (dC : Nat → ClassId) (dI : Nat → Nat → Nat) (h0 : Nat) (le : Int32) (qp sa : Nat) (p0 : Int32) (p1 : Int32) : th_Met l yG_degree wG_degree ({ frames := 7, cells := 1, slots := 6, locals := 104 }) (va_Pc [.ref h0, .int p0, .int p1] (gU dC dI h0 le qp sa)) th_X 1 6 := by
  refine th_ofW (cc := bG_degree) (maxL := 4) (ret := (some .int)) (by decide) rfl ?_
  intro p e s m args below meth c s₁ B hml hno hv
  obtain ⟨rfl, hU⟩ := hv
  have hx := B.exec
  have hb := B.bytes
  have hr := B.returns
  have hts := atoms_spec (ws := wG_degree) B.pre
  have hk : ∀ w ∈ W0, w.before _ s = true := fun w h => hts w (List.mem_cons_of_mem _ h)
  have hown : s.vm.findClass "ImageGcds" = some m.cls := findClass_of_methodNamed B.named
  have hlocks := B.notSynchronized
  have hl := lv_entry ([.ref h0, .int p0, .int p1]) (n := 4) (Nat.le_of_ble_eq_true rfl)
  rw [lg_entry_eq]
  generalize (lg_sl ([.ref h0, .int p0, .int p1]) ++ List.replicate (4 - (lg_sl ([.ref h0, .int p0, .int p1])).length) Slot.unset).toArray = ls at hl ⊢
  have hl : lv_has ls 4 [(0, .ref h0), (1, .int p0), (2, .int p1)] := hl
  refine lv_aload_n hx hb dG_degree_0 rfl (lv_at hl 0 rfl) ?_
  refine lv_iload_n hx hb dG_degree_1 rfl (lv_at hl 1 rfl) ?_
  exact th_up hno rfl rfl rfl hlocks (th_runV (C := "ImageGcds") (As := [.int p0]) (rest := []) ⟨hx, hb, hml, hown, hk⟩ (cG_held l htr dC dI h0 le qp sa p0) (cwV 1 hk (gV k3 k4 k5 k6 k7) rfl rfl rfl (by decide +kernel) ⟨Nat.le_of_ble_eq_true rfl, Nat.le_of_ble_eq_true rfl⟩) ⟨gU.bl, va_recv hU.2.1 hU.1 (ci := 0) (q0 := 0) rfl rfl, fun U hU2 hW => ⟨rfl, hU.go hW (fun q _ => by rw [hU2])⟩⟩ rfl rfl hl.1 rfl (lv_room (Nat.le_of_ble_eq_true rfl)) dG_degree_2 ⟨Nat.le_of_ble_eq_true rfl, Nat.le_of_ble_eq_true rfl⟩)
end
section
abbrev mW (h0 : Nat) (th le co : Int32) (fs : List Value) : va_W := [(h0, .inr (2, .int th :: .int le :: .int co :: fs))]
def mU (dC : Nat → ClassId) (dI : Nat → Nat → Nat) (h0 : Nat) (th le : Int32) (fs : List Value) (U : State) : Prop := va_P (dC, dI) cls9 (mW h0 th le 0 fs) U.heap ∧ va_K (dC, dI) cls9 [] U
theorem mB {dC : Nat → ClassId} {dI : Nat → Nat → Nat} {h0 : Nat} {th le : Int32} {fs av : List Value} : FrameBlind (va_Pc av (mU dC dI h0 th le fs)) := fun a U g mk q => ⟨q.1, q.2.1, va_K.moved (u := U) (U := U.calling g mk a) (Vm.Alike.refl U.vm) q.2.2⟩
theorem mP {dC : Nat → ClassId} {dI : Nat → Nat → Nat} {h0 : Nat} {th le : Int32} {fs av : List Value} {s : State} {H : Heap} (hP : va_P (dC, dI) cls9 (mW h0 th le 0 fs) H) (hK : va_K (dC, dI) cls9 [] s) : ∀ U : State, U.heap = H → s.WarmedH U.vm → va_Pc av (mU dC dI h0 th le fs) av.toArray U := fun U hU hW => ⟨rfl, by rw [hU]; exact hP, va_K.moved hW.alike hK⟩
theorem mD {h0 : Nat} {x : va_E} : va_D (fun q : Nat => q = h0) [(h0, x)] := ⟨fun i j p q hi hj _ => by
    have h1 : i < 1 := (List.getElem?_eq_some_iff.mp hi).1
    have h2 : j < 1 := (List.getElem?_eq_some_iff.mp hj).1
    omega, fun k q hk => by
    have h1 : k < 1 := (List.getElem?_eq_some_iff.mp hk).1
    have h2 : k = 0 := by omega
    subst h2
    cases hk
    rfl⟩
set_option maxHeartbeats 4000000 in
set_option maxRecDepth 100000 in
theorem cM_number (l : Launch) (p0 : Int64) : Met l yM_number wM_number ({ frames := 0, cells := 0, slots := 0, locals := 0 }) (fun v _ => v = ([.long p0] : List Value).toArray) (vp_Si (fun r => True)) 0 0 (fun _ => False) := by
  refine Met.ofW (cc := bM_number) (maxL := 3) (ret := (some .int)) (by decide) rfl ?_
  intro p e s m args below meth c s₁ B hml hv
  obtain rfl := hv
  have hx := B.exec
  have hb := B.bytes
  have hr := B.returns
  have hts := atoms_spec (ws := wM_number) B.pre
  have hk : ∀ w ∈ W0, w.before _ s = true := fun w h => hts w (List.mem_cons_of_mem _ h)
  have hown : s.vm.findClass "ImageGcdsModel" = some m.cls := findClass_of_methodNamed B.named
  have hlocks := B.notSynchronized
  have hl := lv_entry ([.long p0]) (n := 3) (Nat.le_of_ble_eq_true rfl)
  rw [lg_entry_eq]
  generalize (lg_sl ([.long p0]) ++ List.replicate (3 - (lg_sl ([.long p0])).length) Slot.unset).toArray = ls at hl ⊢
  have hl : lv_has ls 3 [(0, .long p0)] := hl
  refine lv_lload_n hx hb dM_number_0 rfl (lv_at hl 0 rfl) ?_
  refine lv_ldc2 (v := 32003) hx hb hown (hk _ k65) dM_number_1 ?_
  refine lv_lrem hx hb dM_number_4 (by decide) ?_
  refine lv_topl (fun v3 ev3 => ?_)
  refine lv_l2i hx hb dM_number_5 rfl ?_
  refine lv_topi (fun v4 ev4 => ?_)
  refine lv_istore_n (lv' := [(2, .int v4), (0, .long p0)]) hx hb dM_number_6 rfl hl (by decide) rfl (fun ls hl => ?_)
  refine lv_iload_n hx hb dM_number_7 rfl (lv_at hl 0 rfl) ?_
  refine lv_if_ge (tgt := 19) hx hb dM_number_8 (by decide) (fun c5 => ?_) (fun c5 => ?_)
  · skip
    refine lv_iload_n hx hb dM_number_19 rfl (lv_at hl 0 rfl) ?_
    exact W.iret (v := v4) hx hb hr (fun t ht hW => ⟨_, rfl, trivial, ht⟩) (fun q h => nomatch h) dM_number_20
  · skip
    refine lv_iload_n hx hb dM_number_11 rfl (lv_at hl 0 rfl) ?_
    refine lv_sipush (v := 32003) hx hb dM_number_12 (by decide) ?_
    refine lv_iadd hx hb dM_number_15 ?_
    refine lv_topi (fun v6 ev6 => ?_)
    refine lv_goto (tgt := 20) hx hb dM_number_16 (by decide) ?_
    exact W.iret (v := v6) hx hb hr (fun t ht hW => ⟨_, rfl, trivial, ht⟩) (fun q h => nomatch h) dM_number_20
set_option maxHeartbeats 4000000 in
set_option maxRecDepth 100000 in
theorem cM_isPoly (l : Launch) (dC : Nat → ClassId) (dI : Nat → Nat → Nat) (h0 : Nat) (th le : Int32) (fs : List Value) (p0 : Int32) : Met l yM_isPoly wM_isPoly ({ frames := 0, cells := 0, slots := 0, locals := 0 }) (va_Pc [.ref h0, .int p0] (mU dC dI h0 th le fs)) (vp_Si (fun r => r = 0)) 0 0 (fun _ => False) := by
  refine Met.ofW (cc := bM_isPoly) (maxL := 2) (ret := (some .boolean)) (by decide) rfl ?_
  intro p e s m args below meth c s₁ B hml hv
  obtain ⟨rfl, hP, hK⟩ := hv
  have hx := B.exec
  have hb := B.bytes
  have hr := B.returns
  have hts := atoms_spec (ws := wM_isPoly) B.pre
  have hk : ∀ w ∈ W0, w.before _ s = true := fun w h => hts w (List.mem_cons_of_mem _ h)
  have hown : s.vm.findClass "ImageGcdsModel" = some m.cls := findClass_of_methodNamed B.named
  have hlocks := B.notSynchronized
  have hl := lv_entry ([.ref h0, .int p0]) (n := 2) (Nat.le_of_ble_eq_true rfl)
  rw [lg_entry_eq]
  generalize (lg_sl ([.ref h0, .int p0]) ++ List.replicate (2 - (lg_sl ([.ref h0, .int p0])).length) Slot.unset).toArray = ls at hl ⊢
  have hl : lv_has ls 2 [(0, .ref h0), (1, .int p0)] := hl
  refine lv_iload_n hx hb dM_isPoly_0 rfl (lv_at hl 1 rfl) ?_
  refine lv_if_lt (tgt := 16) hx hb dM_isPoly_1 (by decide) (fun c7 => ?_) (fun c7 => ?_)
  · skip
    refine lv_iconst (v := 0) hx hb dM_isPoly_16 (by decide) ?_
    exact W.zret (v := 0) hx hb hr rfl (fun t ht hW => ⟨_, rfl, rfl, ht⟩) (fun q h => nomatch h) dM_isPoly_17
  · skip
    refine lv_iload_n hx hb dM_isPoly_4 rfl (lv_at hl 1 rfl) ?_
    refine lv_aload_n hx hb dM_isPoly_5 rfl (lv_at hl 0 rfl) ?_
    refine va_get (D := (dC, dI)) (ci := 2) (v := .int 0) (C := "ImageGcdsModel") (T := TM) (N := 25) hx hb hk uM hown hK hP 0 rfl rfl 2 (by decide) (hk _ k66) (fun _ h9 => h9) rfl dM_isPoly_6 ?_
    refine lv_icmp_ge (tgt := 16) hx hb dM_isPoly_9 (by decide) (fun c8 => ?_) (fun c8 => ?_)
    · skip
      refine lv_iconst (v := 0) hx hb dM_isPoly_16 (by decide) ?_
      exact W.zret (v := 0) hx hb hr rfl (fun t ht hW => ⟨_, rfl, rfl, ht⟩) (fun q h => nomatch h) dM_isPoly_17
    · skip
      exact absurd (Int32.not_lt.mp c7) c8
set_option maxHeartbeats 4000000 in
set_option maxRecDepth 100000 in
theorem cM_isFull (l : Launch) (dC : Nat → ClassId) (dI : Nat → Nat → Nat) (h0 : Nat) (th le : Int32) (fs : List Value) : Met l yM_isFull wM_isFull ({ frames := 0, cells := 0, slots := 0, locals := 0 }) (va_Pc [.ref h0] (mU dC dI h0 th le fs)) (vp_Si (fun r => r = 0)) 0 0 (fun _ => False) := by
  refine Met.ofW (cc := bM_isFull) (maxL := 1) (ret := (some .boolean)) (by decide) rfl ?_
  intro p e s m args below meth c s₁ B hml hv
  obtain ⟨rfl, hP, hK⟩ := hv
  have hx := B.exec
  have hb := B.bytes
  have hr := B.returns
  have hts := atoms_spec (ws := wM_isFull) B.pre
  have hk : ∀ w ∈ W0, w.before _ s = true := fun w h => hts w (List.mem_cons_of_mem _ h)
  have hown : s.vm.findClass "ImageGcdsModel" = some m.cls := findClass_of_methodNamed B.named
  have hlocks := B.notSynchronized
  have hl := lv_entry ([.ref h0]) (n := 1) (Nat.le_of_ble_eq_true rfl)
  rw [lg_entry_eq]
  generalize (lg_sl ([.ref h0]) ++ List.replicate (1 - (lg_sl ([.ref h0])).length) Slot.unset).toArray = ls at hl ⊢
  have hl : lv_has ls 1 [(0, .ref h0)] := hl
  refine lv_aload_n hx hb dM_isFull_0 rfl (lv_at hl 0 rfl) ?_
  refine va_get (D := (dC, dI)) (ci := 2) (v := .int 0) (C := "ImageGcdsModel") (T := TM) (N := 25) hx hb hk uM hown hK hP 0 rfl rfl 2 (by decide) (hk _ k66) (fun _ h9 => h9) rfl dM_isFull_1 ?_
  refine lv_bipush (v := 60) hx hb dM_isFull_4 (by decide) ?_
  refine lv_icmp_ne (tgt := 13) hx hb dM_isFull_6 (by decide) (fun c9 => ?_) (fun c9 => ?_)
  · skip
    refine lv_iconst (v := 0) hx hb dM_isFull_13 (by decide) ?_
    exact W.zret (v := 0) hx hb hr rfl (fun t ht hW => ⟨_, rfl, rfl, ht⟩) (fun q h => nomatch h) dM_isFull_14
  · skip
    exact absurd c9 (by decide)
set_option maxHeartbeats 4000000 in
set_option maxRecDepth 100000 in
theorem cM_isLetter (l : Launch) (dC : Nat → ClassId) (dI : Nat → Nat → Nat) (h0 : Nat) (th le : Int32) (fs : List Value) (p0 : Int32) : Met l yM_isLetter wM_isLetter ({ frames := 0, cells := 0, slots := 0, locals := 0 }) (va_Pc [.ref h0, .int p0] (mU dC dI h0 th le fs)) (vp_Si (fun r => True)) 0 0 (fun _ => False) := by
  refine Met.ofW (cc := bM_isLetter) (maxL := 2) (ret := (some .boolean)) (by decide) rfl ?_
  intro p e s m args below meth c s₁ B hml hv
  obtain ⟨rfl, hP, hK⟩ := hv
  have hx := B.exec
  have hb := B.bytes
  have hr := B.returns
  have hts := atoms_spec (ws := wM_isLetter) B.pre
  have hk : ∀ w ∈ W0, w.before _ s = true := fun w h => hts w (List.mem_cons_of_mem _ h)
  have hown : s.vm.findClass "ImageGcdsModel" = some m.cls := findClass_of_methodNamed B.named
  have hlocks := B.notSynchronized
  have hl := lv_entry ([.ref h0, .int p0]) (n := 2) (Nat.le_of_ble_eq_true rfl)
  rw [lg_entry_eq]
  generalize (lg_sl ([.ref h0, .int p0]) ++ List.replicate (2 - (lg_sl ([.ref h0, .int p0])).length) Slot.unset).toArray = ls at hl ⊢
  have hl : lv_has ls 2 [(0, .ref h0), (1, .int p0)] := hl
  refine lv_iload_n hx hb dM_isLetter_0 rfl (lv_at hl 1 rfl) ?_
  refine lv_if_lt (tgt := 16) hx hb dM_isLetter_1 (by decide) (fun c10 => ?_) (fun c10 => ?_)
  · skip
    refine lv_iconst (v := 0) hx hb dM_isLetter_16 (by decide) ?_
    exact W.zret (v := 0) hx hb hr rfl (fun t ht hW => ⟨_, rfl, trivial, ht⟩) (fun q h => nomatch h) dM_isLetter_17
  · skip
    refine lv_iload_n hx hb dM_isLetter_4 rfl (lv_at hl 1 rfl) ?_
    refine lv_aload_n hx hb dM_isLetter_5 rfl (lv_at hl 0 rfl) ?_
    refine va_get (D := (dC, dI)) (ci := 2) (v := .int le) (C := "ImageGcdsModel") (T := TM) (N := 25) hx hb hk uM hown hK hP 0 rfl rfl 1 (by decide) (hk _ k67) (fun _ h9 => h9) rfl dM_isLetter_6 ?_
    refine lv_icmp_ge (tgt := 16) hx hb dM_isLetter_9 (by decide) (fun c11 => ?_) (fun c11 => ?_)
    · skip
      refine lv_iconst (v := 0) hx hb dM_isLetter_16 (by decide) ?_
      exact W.zret (v := 0) hx hb hr rfl (fun t ht hW => ⟨_, rfl, trivial, ht⟩) (fun q h => nomatch h) dM_isLetter_17
    · skip
      refine lv_iconst (v := 1) hx hb dM_isLetter_12 (by decide) ?_
      refine lv_goto (tgt := 17) hx hb dM_isLetter_13 (by decide) ?_
      exact W.zret (v := 1) hx hb hr rfl (fun t ht hW => ⟨_, rfl, trivial, ht⟩) (fun q h => nomatch h) dM_isLetter_17
set_option maxHeartbeats 4000000 in
set_option maxRecDepth 100000 in
theorem cM_areNot (l : Launch) (dC : Nat → ClassId) (dI : Nat → Nat → Nat) (h0 : Nat) (th le : Int32) (fs : List Value) (p0 : Int32) (p1 : Int32) : Met l yM_areNot wM_areNot ({ frames := 1, cells := 0, slots := 0, locals := 30 }) (va_Pc [.ref h0, .int p0, .int p1] (mU dC dI h0 th le fs)) (vp_Si (fun r => r = 1)) 0 0 (fun _ => False) := by
  refine Met.ofW (cc := bM_areNot) (maxL := 3) (ret := (some .boolean)) (by decide) rfl ?_
  intro p e s m args below meth c s₁ B hml hv
  obtain ⟨rfl, hP, hK⟩ := hv
  have hx := B.exec
  have hb := B.bytes
  have hr := B.returns
  have hts := atoms_spec (ws := wM_areNot) B.pre
  have hk : ∀ w ∈ W0, w.before _ s = true := fun w h => hts w (List.mem_cons_of_mem _ h)
  have hown : s.vm.findClass "ImageGcdsModel" = some m.cls := findClass_of_methodNamed B.named
  have hlocks := B.notSynchronized
  have hl := lv_entry ([.ref h0, .int p0, .int p1]) (n := 3) (Nat.le_of_ble_eq_true rfl)
  rw [lg_entry_eq]
  generalize (lg_sl ([.ref h0, .int p0, .int p1]) ++ List.replicate (3 - (lg_sl ([.ref h0, .int p0, .int p1])).length) Slot.unset).toArray = ls at hl ⊢
  have hl : lv_has ls 3 [(0, .ref h0), (1, .int p0), (2, .int p1)] := hl
  refine lv_aload_n hx hb dM_areNot_0 rfl (lv_at hl 0 rfl) ?_
  refine lv_iload_n hx hb dM_areNot_1 rfl (lv_at hl 1 rfl) ?_
  refine vp_callSi (W.runV (As := [.int p0]) (rest := []) ⟨hx, hb, hml, hown, hk⟩ (cM_isPoly l dC dI h0 th le fs p0) (cwV 1 hk (gV k68 k69 k70 k71 k72) rfl rfl rfl (by decide +kernel) ⟨Nat.le_of_ble_eq_true rfl, Nat.le_of_ble_eq_true rfl⟩) ⟨mB, va_recv hK hP (ci := 2) (q0 := 0) rfl rfl, mP hP hK⟩ rfl rfl hl.1 rfl (lv_room (Nat.le_of_ble_eq_true rfl)) dM_areNot_2 ⟨Nat.le_of_ble_eq_true rfl, Nat.le_of_ble_eq_true rfl⟩) (fun r12 hw => ?_)
  subst hw
  refine lv_if_eq (tgt := 16) hx hb dM_areNot_5 (by decide) (fun c13 => ?_) (fun c13 => ?_)
  · skip
    refine lv_iconst (v := 1) hx hb dM_areNot_16 (by decide) ?_
    refine lv_goto (tgt := 21) hx hb dM_areNot_17 (by decide) ?_
    exact W.zret (v := 1) hx hb hr rfl (fun t ht hW => ⟨_, rfl, rfl, ht⟩) (fun q h => nomatch h) dM_areNot_21
  · skip
    exact absurd c13 (by decide)
set_option maxHeartbeats 4000000 in
set_option maxRecDepth 100000 in
theorem cM_thrown (l : Launch) (dC : Nat → ClassId) (dI : Nat → Nat → Nat) (h0 : Nat) (th le : Int32) (fs : List Value) : Met l yM_thrown wM_thrown ({ frames := 0, cells := 0, slots := 0, locals := 0 }) (va_Pc [.ref h0] (mU dC dI h0 th le fs)) (vp_Si (fun r => r = th)) 0 0 (fun _ => False) := by
  refine Met.ofW (cc := bM_thrown) (maxL := 1) (ret := (some .int)) (by decide) rfl ?_
  intro p e s m args below meth c s₁ B hml hv
  obtain ⟨rfl, hP, hK⟩ := hv
  have hx := B.exec
  have hb := B.bytes
  have hr := B.returns
  have hts := atoms_spec (ws := wM_thrown) B.pre
  have hk : ∀ w ∈ W0, w.before _ s = true := fun w h => hts w (List.mem_cons_of_mem _ h)
  have hown : s.vm.findClass "ImageGcdsModel" = some m.cls := findClass_of_methodNamed B.named
  have hlocks := B.notSynchronized
  have hl := lv_entry ([.ref h0]) (n := 1) (Nat.le_of_ble_eq_true rfl)
  rw [lg_entry_eq]
  generalize (lg_sl ([.ref h0]) ++ List.replicate (1 - (lg_sl ([.ref h0])).length) Slot.unset).toArray = ls at hl ⊢
  have hl : lv_has ls 1 [(0, .ref h0)] := hl
  refine lv_aload_n hx hb dM_thrown_0 rfl (lv_at hl 0 rfl) ?_
  refine va_get (D := (dC, dI)) (ci := 2) (v := .int th) (C := "ImageGcdsModel") (T := TM) (N := 25) hx hb hk uM hown hK hP 0 rfl rfl 0 (by decide) (hk _ k73) (fun _ h9 => h9) rfl dM_thrown_1 ?_
  exact W.iret (v := th) hx hb hr (fun t ht hW => ⟨_, rfl, rfl, ht⟩) (fun q h => nomatch h) dM_thrown_4
set_option maxHeartbeats 4000000 in
set_option maxRecDepth 100000 in
theorem cM_fails1 (l : Launch) (dC : Nat → ClassId) (dI : Nat → Nat → Nat) (h0 : Nat) (th le : Int32) (fs : List Value) (x y : Int32) : Met l yM_fails wM_fails ({ frames := 0, cells := 0, slots := 0, locals := 0 }) (va_Pc [.ref h0, .int 1, .int x, .int y] (mU dC dI h0 th le fs)) (va_Qi (fun (r : Int32) (_ : Unit) => r = 1) (fun _ t => mU dC dI h0 1 le fs t) (fun q => q = h0)) 0 0 (fun q => q = h0) := by
  refine Met.ofW (cc := bM_fails) (maxL := 4) (ret := (some .boolean)) (by decide) rfl ?_
  intro p e s m args below meth c s₁ B hml hv
  obtain ⟨rfl, hP, hK⟩ := hv
  have hx := B.exec
  have hb := B.bytes
  have hr := B.returns
  have hts := atoms_spec (ws := wM_fails) B.pre
  have hk : ∀ w ∈ W0, w.before _ s = true := fun w h => hts w (List.mem_cons_of_mem _ h)
  have hown : s.vm.findClass "ImageGcdsModel" = some m.cls := findClass_of_methodNamed B.named
  have hlocks := B.notSynchronized
  have hD : va_D (fun q : Nat => q = h0) (mW h0 th le 0 fs) := mD
  have hS : va_S (fun q : Nat => q = h0) s.heap s.heap [] := va_S.rf
  have hl := lv_entry ([.ref h0, .int 1, .int x, .int y]) (n := 4) (Nat.le_of_ble_eq_true rfl)
  rw [lg_entry_eq]
  generalize (lg_sl ([.ref h0, .int 1, .int x, .int y]) ++ List.replicate (4 - (lg_sl ([.ref h0, .int 1, .int x, .int y])).length) Slot.unset).toArray = ls at hl ⊢
  have hl : lv_has ls 4 [(0, .ref h0), (1, .int 1), (2, .int x), (3, .int y)] := hl
  refine lv_aload_n hx hb dM_fails_0 rfl (lv_at hl 0 rfl) ?_
  refine lv_iload_n hx hb dM_fails_1 rfl (lv_at hl 1 rfl) ?_
  refine lv_if_eq (tgt := 9) hx hb dM_fails_2 (by decide) (fun c14 => ?_) (fun c14 => ?_)
  · skip
    exact absurd c14 (by decide)
  · skip
    refine lv_iconst (v := 1) hx hb dM_fails_5 (by decide) ?_
    refine lv_goto (tgt := 26) hx hb dM_fails_6 (by decide) ?_
    refine va_put (D := (dC, dI)) (ci := 2) (v := .int 1) (ty := .int) (C := "ImageGcdsModel") (T := TM) (N := 25) hx hb hk uM tM tM_ok nM hown hK hP hD hS 0 rfl rfl 0 (by decide) (hk _ k73) (fun _ h9 => h9) rfl (by decide +kernel) rfl rfl (by simp) dM_fails_26 (fun H locs hP hD hS => ?_)
    have hP : va_P (dC, dI) cls9 (mW h0 1 le 0 fs) H := hP
    have hD : va_D (fun q : Nat => q = h0) (mW h0 1 le 0 fs) := hD
    refine lv_aload_n hx hb dM_fails_29 rfl (lv_at hl 0 rfl) ?_
    refine va_get (D := (dC, dI)) (ci := 2) (v := .int 1) (C := "ImageGcdsModel") (T := TM) (N := 25) hx hb hk uM hown hK hP 0 rfl rfl 0 (by decide) (hk _ k73) (fun _ h9 => h9) rfl dM_fails_30 ?_
    refine lv_if_le (tgt := 40) hx hb dM_fails_33 (by decide) (fun c15 => ?_) (fun c15 => ?_)
    · skip
      exact absurd c15 (by decide)
    · skip
      refine lv_iconst (v := 1) hx hb dM_fails_36 (by decide) ?_
      refine lv_goto (tgt := 41) hx hb dM_fails_37 (by decide) ?_
      exact W.zret (v := 1) hx hb hr rfl (fun t ht hW => ⟨⟨1, (), rfl, rfl, by rw [ht]; exact hP, va_K.moved hW.alike hK⟩, hS.F ht⟩) hS.2.2 dM_fails_41
set_option maxHeartbeats 4000000 in
set_option maxRecDepth 100000 in
theorem cM_fails0 (l : Launch) (dC : Nat → ClassId) (dI : Nat → Nat → Nat) (h0 : Nat) (th le : Int32) (fs : List Value) : Met l yM_fails wM_fails ({ frames := 0, cells := 0, slots := 0, locals := 0 }) (va_Pc [.ref h0, .int 0, .int 0, .int 0] (mU dC dI h0 th le fs)) (va_Qi (fun (r : Int32) (_ : Unit) => r = 0) (fun _ t => mU dC dI h0 0 le fs t) (fun q => q = h0)) 0 0 (fun q => q = h0) := by
  refine Met.ofW (cc := bM_fails) (maxL := 4) (ret := (some .boolean)) (by decide) rfl ?_
  intro p e s m args below meth c s₁ B hml hv
  obtain ⟨rfl, hP, hK⟩ := hv
  have hx := B.exec
  have hb := B.bytes
  have hr := B.returns
  have hts := atoms_spec (ws := wM_fails) B.pre
  have hk : ∀ w ∈ W0, w.before _ s = true := fun w h => hts w (List.mem_cons_of_mem _ h)
  have hown : s.vm.findClass "ImageGcdsModel" = some m.cls := findClass_of_methodNamed B.named
  have hlocks := B.notSynchronized
  have hD : va_D (fun q : Nat => q = h0) (mW h0 th le 0 fs) := mD
  have hS : va_S (fun q : Nat => q = h0) s.heap s.heap [] := va_S.rf
  have hl := lv_entry ([.ref h0, .int 0, .int 0, .int 0]) (n := 4) (Nat.le_of_ble_eq_true rfl)
  rw [lg_entry_eq]
  generalize (lg_sl ([.ref h0, .int 0, .int 0, .int 0]) ++ List.replicate (4 - (lg_sl ([.ref h0, .int 0, .int 0, .int 0])).length) Slot.unset).toArray = ls at hl ⊢
  have hl : lv_has ls 4 [(0, .ref h0), (1, .int 0), (2, .int 0), (3, .int 0)] := hl
  refine lv_aload_n hx hb dM_fails_0 rfl (lv_at hl 0 rfl) ?_
  refine lv_iload_n hx hb dM_fails_1 rfl (lv_at hl 1 rfl) ?_
  refine lv_if_eq (tgt := 9) hx hb dM_fails_2 (by decide) (fun c16 => ?_) (fun c16 => ?_)
  · skip
    refine lv_iload_n hx hb dM_fails_9 rfl (lv_at hl 2 rfl) ?_
    refine lv_if_eq (tgt := 17) hx hb dM_fails_10 (by decide) (fun c17 => ?_) (fun c17 => ?_)
    · skip
      refine lv_iload_n hx hb dM_fails_17 rfl (lv_at hl 3 rfl) ?_
      refine lv_if_eq (tgt := 25) hx hb dM_fails_18 (by decide) (fun c18 => ?_) (fun c18 => ?_)
      · skip
        refine lv_iconst (v := 0) hx hb dM_fails_25 (by decide) ?_
        refine va_put (D := (dC, dI)) (ci := 2) (v := .int 0) (ty := .int) (C := "ImageGcdsModel") (T := TM) (N := 25) hx hb hk uM tM tM_ok nM hown hK hP hD hS 0 rfl rfl 0 (by decide) (hk _ k73) (fun _ h9 => h9) rfl (by decide +kernel) rfl rfl (by simp) dM_fails_26 (fun H locs hP hD hS => ?_)
        have hP : va_P (dC, dI) cls9 (mW h0 0 le 0 fs) H := hP
        have hD : va_D (fun q : Nat => q = h0) (mW h0 0 le 0 fs) := hD
        refine lv_aload_n hx hb dM_fails_29 rfl (lv_at hl 0 rfl) ?_
        refine va_get (D := (dC, dI)) (ci := 2) (v := .int 0) (C := "ImageGcdsModel") (T := TM) (N := 25) hx hb hk uM hown hK hP 0 rfl rfl 0 (by decide) (hk _ k73) (fun _ h9 => h9) rfl dM_fails_30 ?_
        refine lv_if_le (tgt := 40) hx hb dM_fails_33 (by decide) (fun c19 => ?_) (fun c19 => ?_)
        · skip
          refine lv_iconst (v := 0) hx hb dM_fails_40 (by decide) ?_
          exact W.zret (v := 0) hx hb hr rfl (fun t ht hW => ⟨⟨0, (), rfl, rfl, by rw [ht]; exact hP, va_K.moved hW.alike hK⟩, hS.F ht⟩) hS.2.2 dM_fails_41
        · skip
          exact absurd c19 (by decide)
      · skip
        exact absurd c18 (by decide)
    · skip
      exact absurd c17 (by decide)
  · skip
    exact absurd c16 (by decide)
set_option maxHeartbeats 4000000 in
set_option maxRecDepth 100000 in
theorem cM_count (l : Launch) (dC : Nat → ClassId) (dI : Nat → Nat → Nat) (h0 : Nat) (th le : Int32) (fs : List Value) : Met l yM_count wM_count ({ frames := 0, cells := 0, slots := 0, locals := 0 }) (va_Pc [.ref h0] (mU dC dI h0 th le fs)) (va_Qi (fun (r : Int32) (_ : Unit) => r = 0) (fun _ t => mU dC dI h0 0 le fs t) (fun q => q = h0)) 0 0 (fun q => q = h0) := by
  refine Met.ofW (cc := bM_count) (maxL := 1) (ret := (some .int)) (by decide) rfl ?_
  intro p e s m args below meth c s₁ B hml hv
  obtain ⟨rfl, hP, hK⟩ := hv
  have hx := B.exec
  have hb := B.bytes
  have hr := B.returns
  have hts := atoms_spec (ws := wM_count) B.pre
  have hk : ∀ w ∈ W0, w.before _ s = true := fun w h => hts w (List.mem_cons_of_mem _ h)
  have hown : s.vm.findClass "ImageGcdsModel" = some m.cls := findClass_of_methodNamed B.named
  have hlocks := B.notSynchronized
  have hD : va_D (fun q : Nat => q = h0) (mW h0 th le 0 fs) := mD
  have hS : va_S (fun q : Nat => q = h0) s.heap s.heap [] := va_S.rf
  have hl := lv_entry ([.ref h0]) (n := 1) (Nat.le_of_ble_eq_true rfl)
  rw [lg_entry_eq]
  generalize (lg_sl ([.ref h0]) ++ List.replicate (1 - (lg_sl ([.ref h0])).length) Slot.unset).toArray = ls at hl ⊢
  have hl : lv_has ls 1 [(0, .ref h0)] := hl
  refine lv_aload_n hx hb dM_count_0 rfl (lv_at hl 0 rfl) ?_
  refine lv_iconst (v := 0) hx hb dM_count_1 (by decide) ?_
  refine va_put (D := (dC, dI)) (ci := 2) (v := .int 0) (ty := .int) (C := "ImageGcdsModel") (T := TM) (N := 25) hx hb hk uM tM tM_ok nM hown hK hP hD hS 0 rfl rfl 0 (by decide) (hk _ k73) (fun _ h9 => h9) rfl (by decide +kernel) rfl rfl (by simp) dM_count_2 (fun H locs hP hD hS => ?_)
  have hP : va_P (dC, dI) cls9 (mW h0 0 le 0 fs) H := hP
  have hD : va_D (fun q : Nat => q = h0) (mW h0 0 le 0 fs) := hD
  refine lv_aload_n hx hb dM_count_5 rfl (lv_at hl 0 rfl) ?_
  refine va_get (D := (dC, dI)) (ci := 2) (v := .int 0) (C := "ImageGcdsModel") (T := TM) (N := 25) hx hb hk uM hown hK hP 0 rfl rfl 2 (by decide) (hk _ k66) (fun _ h9 => h9) rfl dM_count_6 ?_
  exact W.iret (v := 0) hx hb hr (fun t ht hW => ⟨⟨0, (), rfl, rfl, by rw [ht]; exact hP, va_K.moved hW.alike hK⟩, hS.F ht⟩) hS.2.2 dM_count_9
end
section
set_option maxHeartbeats 4000000 in
set_option maxRecDepth 100000 in
theorem cM_term (l : Launch) (dC : Nat → ClassId) (dI : Nat → Nat → Nat) (h0 : Nat) (th le : Int32) (fs : List Value) (p0 : Int32) (p1 : Int64) (p2 : Int64) (p3 : Int32) : Met l yM_term wM_term ({ frames := 2, cells := 0, slots := 0, locals := 60 }) (va_Pc [.ref h0, .int p0, .long p1, .long p2, .int p3] (mU dC dI h0 th le fs)) (va_Qi (fun (r : Int32) (_ : Unit) => r = 0) (fun _ t => mU dC dI h0 1 le fs t) (fun q => q = h0)) 0 0 (fun q => q = h0) := by
  refine Met.ofW (cc := bM_term) (maxL := 9) (ret := (some .boolean)) (by decide) rfl ?_
  intro p e s m args below meth c s₁ B hml hv
  obtain ⟨rfl, hP, hK⟩ := hv
  have hx := B.exec
  have hb := B.bytes
  have hr := B.returns
  have hts := atoms_spec (ws := wM_term) B.pre
  have hk : ∀ w ∈ W0, w.before _ s = true := fun w h => hts w (List.mem_cons_of_mem _ h)
  have hown : s.vm.findClass "ImageGcdsModel" = some m.cls := findClass_of_methodNamed B.named
  have hlocks := B.notSynchronized
  have hD : va_D (fun q : Nat => q = h0) (mW h0 th le 0 fs) := mD
  have hS : va_S (fun q : Nat => q = h0) s.heap s.heap [] := va_S.rf
  have hl := lv_entry ([.ref h0, .int p0, .long p1, .long p2, .int p3]) (n := 9) (Nat.le_of_ble_eq_true rfl)
  rw [lg_entry_eq]
  generalize (lg_sl ([.ref h0, .int p0, .long p1, .long p2, .int p3]) ++ List.replicate (9 - (lg_sl ([.ref h0, .int p0, .long p1, .long p2, .int p3])).length) Slot.unset).toArray = ls at hl ⊢
  have hl : lv_has ls 9 [(0, .ref h0), (1, .int p0), (2, .long p1), (4, .long p2), (6, .int p3)] := hl
  refine lv_aload_n hx hb dM_term_0 rfl (lv_at hl 0 rfl) ?_
  refine lv_aload_n hx hb dM_term_1 rfl (lv_at hl 0 rfl) ?_
  refine lv_iload_n hx hb dM_term_2 rfl (lv_at hl 1 rfl) ?_
  refine vp_callSi (W.runV (As := [.int p0]) (rest := [.ref h0]) ⟨hx, hb, hml, hown, hk⟩ (cM_isPoly l dC dI h0 th le fs p0) (cwV 1 hk (gV k68 k69 k70 k71 k72) rfl rfl rfl (by decide +kernel) ⟨Nat.le_of_ble_eq_true rfl, Nat.le_of_ble_eq_true rfl⟩) ⟨mB, va_recv hK hP (ci := 2) (q0 := 0) rfl rfl, mP hP hK⟩ rfl rfl hl.1 rfl (lv_room (Nat.le_of_ble_eq_true rfl)) dM_term_3 ⟨Nat.le_of_ble_eq_true rfl, Nat.le_of_ble_eq_true rfl⟩) (fun r20 hw => ?_)
  subst hw
  refine lv_if_ne (tgt := 13) hx hb dM_term_6 (by decide) (fun c21 => ?_) (fun c21 => ?_)
  · skip
    exact absurd c21 (by decide)
  · skip
    refine lv_iconst (v := 1) hx hb dM_term_9 (by decide) ?_
    refine lv_goto (tgt := 14) hx hb dM_term_10 (by decide) ?_
    refine lv_iload hx hb dM_term_14 (lv_at hl 4 rfl) ?_
    refine lv_if_lt (tgt := 32) hx hb dM_term_16 (by decide) (fun c22 => ?_) (fun c22 => ?_)
    · skip
      refine lv_iconst (v := 1) hx hb dM_term_32 (by decide) ?_
      refine lv_goto (tgt := 37) hx hb dM_term_33 (by decide) ?_
      refine lv_lload hx hb dM_term_37 (lv_at hl 3 rfl) ?_
      refine vp_callSi (W.runS (As := [.long p2]) (rest := [.int 1, .int 1, .ref h0]) ⟨hx, hb, hml, hown, hk⟩ (cM_number l p2) (va_cwS 1 hk (gS k74 k75 k71 k76) rfl rfl rfl (by decide +kernel) ⟨Nat.le_of_ble_eq_true rfl, Nat.le_of_ble_eq_true rfl⟩) ⟨fun _ _ _ _ q => q, fun _ _ _ => rfl⟩ rfl rfl hl.1 rfl (lv_room (Nat.le_of_ble_eq_true rfl)) dM_term_39 ⟨Nat.le_of_ble_eq_true rfl, Nat.le_of_ble_eq_true rfl⟩) (fun r23 _ => ?_)
      refine lv_if_ne (tgt := 49) hx hb dM_term_42 (by decide) (fun c24 => ?_) (fun c24 => ?_)
      · skip
        refine lv_iconst (v := 0) hx hb dM_term_49 (by decide) ?_
        refine va_calli (va_runV (As := [.int 1, .int 1, .int 0]) (rest := []) ⟨hx, hb, hml, hown, hk⟩ (cM_fails1 l dC dI h0 th le fs 1 0) (cwV 3 hk (gV k77 k78 k79 k71 k80) rfl rfl rfl (by decide +kernel) ⟨Nat.le_of_ble_eq_true rfl, Nat.le_of_ble_eq_true rfl⟩) ⟨mB, va_recv hK hP (ci := 2) (q0 := 0) rfl rfl, mP hP hK⟩ rfl rfl hl.1 rfl (lv_room (Nat.le_of_ble_eq_true rfl)) dM_term_50 ⟨Nat.le_of_ble_eq_true rfl, Nat.le_of_ble_eq_true rfl⟩) hS (fun q _ h => h) (fun q h => h) (fun r25 _ t H1 locs ht hvm hw hB hz1 hk1 hS => ?_)
        subst hw
        obtain ⟨hP, hK1⟩ := hB
        rw [ht] at hP
        generalize H1 = H at hP hS ⊢
        have hD : va_D (fun q : Nat => q = h0) (mW h0 1 le 0 fs) := mD
        refine lv_if_eq (tgt := 58) hx hb dM_term_53 (by decide) (fun c26 => ?_) (fun c26 => ?_)
        · skip
          exact absurd c26 (by decide)
        · skip
          refine lv_iconst (v := 0) hx hb dM_term_56 (by decide) ?_
          exact W.zret (v := 0) hx hb hr rfl (fun t ht hW => ⟨⟨0, (), rfl, rfl, by rw [ht]; exact hP, va_K.moved hW.alike hK⟩, hS.F ht⟩) hS.2.2 dM_term_57
      · skip
        refine lv_iconst (v := 1) hx hb dM_term_45 (by decide) ?_
        refine lv_goto (tgt := 50) hx hb dM_term_46 (by decide) ?_
        refine va_calli (va_runV (As := [.int 1, .int 1, .int 1]) (rest := []) ⟨hx, hb, hml, hown, hk⟩ (cM_fails1 l dC dI h0 th le fs 1 1) (cwV 3 hk (gV k77 k78 k79 k71 k80) rfl rfl rfl (by decide +kernel) ⟨Nat.le_of_ble_eq_true rfl, Nat.le_of_ble_eq_true rfl⟩) ⟨mB, va_recv hK hP (ci := 2) (q0 := 0) rfl rfl, mP hP hK⟩ rfl rfl hl.1 rfl (lv_room (Nat.le_of_ble_eq_true rfl)) dM_term_50 ⟨Nat.le_of_ble_eq_true rfl, Nat.le_of_ble_eq_true rfl⟩) hS (fun q _ h => h) (fun q h => h) (fun r27 _ t H1 locs ht hvm hw hB hz1 hk1 hS => ?_)
        subst hw
        obtain ⟨hP, hK1⟩ := hB
        rw [ht] at hP
        generalize H1 = H at hP hS ⊢
        have hD : va_D (fun q : Nat => q = h0) (mW h0 1 le 0 fs) := mD
        refine lv_if_eq (tgt := 58) hx hb dM_term_53 (by decide) (fun c28 => ?_) (fun c28 => ?_)
        · skip
          exact absurd c28 (by decide)
        · skip
          refine lv_iconst (v := 0) hx hb dM_term_56 (by decide) ?_
          exact W.zret (v := 0) hx hb hr rfl (fun t ht hW => ⟨⟨0, (), rfl, rfl, by rw [ht]; exact hP, va_K.moved hW.alike hK⟩, hS.F ht⟩) hS.2.2 dM_term_57
    · skip
      refine lv_iload hx hb dM_term_19 (lv_at hl 4 rfl) ?_
      refine lv_iconst (v := 1) hx hb dM_term_21 (by decide) ?_
      refine lv_iconst (v := 4) hx hb dM_term_22 (by decide) ?_
      refine lv_aload_n hx hb dM_term_23 rfl (lv_at hl 0 rfl) ?_
      refine va_get (D := (dC, dI)) (ci := 2) (v := .int le) (C := "ImageGcdsModel") (T := TM) (N := 25) hx hb hk uM hown hK hP 0 rfl rfl 1 (by decide) (hk _ k67) (fun _ h9 => h9) rfl dM_term_24 ?_
      refine lv_imul hx hb dM_term_27 ?_
      refine lv_topi (fun v29 ev29 => ?_)
      refine lv_ishl hx hb dM_term_28 ?_
      refine lv_topi (fun v30 ev30 => ?_)
      refine lv_icmp_lt (tgt := 36) hx hb dM_term_29 (by decide) (fun c31 => ?_) (fun c31 => ?_)
      · skip
        refine lv_iconst (v := 0) hx hb dM_term_36 (by decide) ?_
        refine lv_lload hx hb dM_term_37 (lv_at hl 3 rfl) ?_
        refine vp_callSi (W.runS (As := [.long p2]) (rest := [.int 0, .int 1, .ref h0]) ⟨hx, hb, hml, hown, hk⟩ (cM_number l p2) (va_cwS 1 hk (gS k74 k75 k71 k76) rfl rfl rfl (by decide +kernel) ⟨Nat.le_of_ble_eq_true rfl, Nat.le_of_ble_eq_true rfl⟩) ⟨fun _ _ _ _ q => q, fun _ _ _ => rfl⟩ rfl rfl hl.1 rfl (lv_room (Nat.le_of_ble_eq_true rfl)) dM_term_39 ⟨Nat.le_of_ble_eq_true rfl, Nat.le_of_ble_eq_true rfl⟩) (fun r32 _ => ?_)
        refine lv_if_ne (tgt := 49) hx hb dM_term_42 (by decide) (fun c33 => ?_) (fun c33 => ?_)
        · skip
          refine lv_iconst (v := 0) hx hb dM_term_49 (by decide) ?_
          refine va_calli (va_runV (As := [.int 1, .int 0, .int 0]) (rest := []) ⟨hx, hb, hml, hown, hk⟩ (cM_fails1 l dC dI h0 th le fs 0 0) (cwV 3 hk (gV k77 k78 k79 k71 k80) rfl rfl rfl (by decide +kernel) ⟨Nat.le_of_ble_eq_true rfl, Nat.le_of_ble_eq_true rfl⟩) ⟨mB, va_recv hK hP (ci := 2) (q0 := 0) rfl rfl, mP hP hK⟩ rfl rfl hl.1 rfl (lv_room (Nat.le_of_ble_eq_true rfl)) dM_term_50 ⟨Nat.le_of_ble_eq_true rfl, Nat.le_of_ble_eq_true rfl⟩) hS (fun q _ h => h) (fun q h => h) (fun r34 _ t H1 locs ht hvm hw hB hz1 hk1 hS => ?_)
          subst hw
          obtain ⟨hP, hK1⟩ := hB
          rw [ht] at hP
          generalize H1 = H at hP hS ⊢
          have hD : va_D (fun q : Nat => q = h0) (mW h0 1 le 0 fs) := mD
          refine lv_if_eq (tgt := 58) hx hb dM_term_53 (by decide) (fun c35 => ?_) (fun c35 => ?_)
          · skip
            exact absurd c35 (by decide)
          · skip
            refine lv_iconst (v := 0) hx hb dM_term_56 (by decide) ?_
            exact W.zret (v := 0) hx hb hr rfl (fun t ht hW => ⟨⟨0, (), rfl, rfl, by rw [ht]; exact hP, va_K.moved hW.alike hK⟩, hS.F ht⟩) hS.2.2 dM_term_57
        · skip
          refine lv_iconst (v := 1) hx hb dM_term_45 (by decide) ?_
          refine lv_goto (tgt := 50) hx hb dM_term_46 (by decide) ?_
          refine va_calli (va_runV (As := [.int 1, .int 0, .int 1]) (rest := []) ⟨hx, hb, hml, hown, hk⟩ (cM_fails1 l dC dI h0 th le fs 0 1) (cwV 3 hk (gV k77 k78 k79 k71 k80) rfl rfl rfl (by decide +kernel) ⟨Nat.le_of_ble_eq_true rfl, Nat.le_of_ble_eq_true rfl⟩) ⟨mB, va_recv hK hP (ci := 2) (q0 := 0) rfl rfl, mP hP hK⟩ rfl rfl hl.1 rfl (lv_room (Nat.le_of_ble_eq_true rfl)) dM_term_50 ⟨Nat.le_of_ble_eq_true rfl, Nat.le_of_ble_eq_true rfl⟩) hS (fun q _ h => h) (fun q h => h) (fun r36 _ t H1 locs ht hvm hw hB hz1 hk1 hS => ?_)
          subst hw
          obtain ⟨hP, hK1⟩ := hB
          rw [ht] at hP
          generalize H1 = H at hP hS ⊢
          have hD : va_D (fun q : Nat => q = h0) (mW h0 1 le 0 fs) := mD
          refine lv_if_eq (tgt := 58) hx hb dM_term_53 (by decide) (fun c37 => ?_) (fun c37 => ?_)
          · skip
            exact absurd c37 (by decide)
          · skip
            refine lv_iconst (v := 0) hx hb dM_term_56 (by decide) ?_
            exact W.zret (v := 0) hx hb hr rfl (fun t ht hW => ⟨⟨0, (), rfl, rfl, by rw [ht]; exact hP, va_K.moved hW.alike hK⟩, hS.F ht⟩) hS.2.2 dM_term_57
      · skip
        refine lv_iconst (v := 1) hx hb dM_term_32 (by decide) ?_
        refine lv_goto (tgt := 37) hx hb dM_term_33 (by decide) ?_
        refine lv_lload hx hb dM_term_37 (lv_at hl 3 rfl) ?_
        refine vp_callSi (W.runS (As := [.long p2]) (rest := [.int 1, .int 1, .ref h0]) ⟨hx, hb, hml, hown, hk⟩ (cM_number l p2) (va_cwS 1 hk (gS k74 k75 k71 k76) rfl rfl rfl (by decide +kernel) ⟨Nat.le_of_ble_eq_true rfl, Nat.le_of_ble_eq_true rfl⟩) ⟨fun _ _ _ _ q => q, fun _ _ _ => rfl⟩ rfl rfl hl.1 rfl (lv_room (Nat.le_of_ble_eq_true rfl)) dM_term_39 ⟨Nat.le_of_ble_eq_true rfl, Nat.le_of_ble_eq_true rfl⟩) (fun r38 _ => ?_)
        refine lv_if_ne (tgt := 49) hx hb dM_term_42 (by decide) (fun c39 => ?_) (fun c39 => ?_)
        · skip
          refine lv_iconst (v := 0) hx hb dM_term_49 (by decide) ?_
          refine va_calli (va_runV (As := [.int 1, .int 1, .int 0]) (rest := []) ⟨hx, hb, hml, hown, hk⟩ (cM_fails1 l dC dI h0 th le fs 1 0) (cwV 3 hk (gV k77 k78 k79 k71 k80) rfl rfl rfl (by decide +kernel) ⟨Nat.le_of_ble_eq_true rfl, Nat.le_of_ble_eq_true rfl⟩) ⟨mB, va_recv hK hP (ci := 2) (q0 := 0) rfl rfl, mP hP hK⟩ rfl rfl hl.1 rfl (lv_room (Nat.le_of_ble_eq_true rfl)) dM_term_50 ⟨Nat.le_of_ble_eq_true rfl, Nat.le_of_ble_eq_true rfl⟩) hS (fun q _ h => h) (fun q h => h) (fun r40 _ t H1 locs ht hvm hw hB hz1 hk1 hS => ?_)
          subst hw
          obtain ⟨hP, hK1⟩ := hB
          rw [ht] at hP
          generalize H1 = H at hP hS ⊢
          have hD : va_D (fun q : Nat => q = h0) (mW h0 1 le 0 fs) := mD
          refine lv_if_eq (tgt := 58) hx hb dM_term_53 (by decide) (fun c41 => ?_) (fun c41 => ?_)
          · skip
            exact absurd c41 (by decide)
          · skip
            refine lv_iconst (v := 0) hx hb dM_term_56 (by decide) ?_
            exact W.zret (v := 0) hx hb hr rfl (fun t ht hW => ⟨⟨0, (), rfl, rfl, by rw [ht]; exact hP, va_K.moved hW.alike hK⟩, hS.F ht⟩) hS.2.2 dM_term_57
        · skip
          refine lv_iconst (v := 1) hx hb dM_term_45 (by decide) ?_
          refine lv_goto (tgt := 50) hx hb dM_term_46 (by decide) ?_
          refine va_calli (va_runV (As := [.int 1, .int 1, .int 1]) (rest := []) ⟨hx, hb, hml, hown, hk⟩ (cM_fails1 l dC dI h0 th le fs 1 1) (cwV 3 hk (gV k77 k78 k79 k71 k80) rfl rfl rfl (by decide +kernel) ⟨Nat.le_of_ble_eq_true rfl, Nat.le_of_ble_eq_true rfl⟩) ⟨mB, va_recv hK hP (ci := 2) (q0 := 0) rfl rfl, mP hP hK⟩ rfl rfl hl.1 rfl (lv_room (Nat.le_of_ble_eq_true rfl)) dM_term_50 ⟨Nat.le_of_ble_eq_true rfl, Nat.le_of_ble_eq_true rfl⟩) hS (fun q _ h => h) (fun q h => h) (fun r42 _ t H1 locs ht hvm hw hB hz1 hk1 hS => ?_)
          subst hw
          obtain ⟨hP, hK1⟩ := hB
          rw [ht] at hP
          generalize H1 = H at hP hS ⊢
          have hD : va_D (fun q : Nat => q = h0) (mW h0 1 le 0 fs) := mD
          refine lv_if_eq (tgt := 58) hx hb dM_term_53 (by decide) (fun c43 => ?_) (fun c43 => ?_)
          · skip
            exact absurd c43 (by decide)
          · skip
            refine lv_iconst (v := 0) hx hb dM_term_56 (by decide) ?_
            exact W.zret (v := 0) hx hb hr rfl (fun t ht hW => ⟨⟨0, (), rfl, rfl, by rw [ht]; exact hP, va_K.moved hW.alike hK⟩, hS.F ht⟩) hS.2.2 dM_term_57
set_option maxHeartbeats 4000000 in
set_option maxRecDepth 100000 in
theorem cM_add (l : Launch) (dC : Nat → ClassId) (dI : Nat → Nat → Nat) (h0 : Nat) (th le : Int32) (fs : List Value) (p0 : Int32) (p1 : Int32) : Met l yM_add wM_add ({ frames := 2, cells := 0, slots := 0, locals := 60 }) (va_Pc [.ref h0, .int p0, .int p1] (mU dC dI h0 th le fs)) (va_Qi (fun (r : Int32) (_ : Unit) => r = 0) (fun _ t => mU dC dI h0 1 le fs t) (fun q => q = h0)) 0 0 (fun q => q = h0) := by
  refine Met.ofW (cc := bM_add) (maxL := 4) (ret := (some .int)) (by decide) rfl ?_
  intro p e s m args below meth c s₁ B hml hv
  obtain ⟨rfl, hP, hK⟩ := hv
  have hx := B.exec
  have hb := B.bytes
  have hr := B.returns
  have hts := atoms_spec (ws := wM_add) B.pre
  have hk : ∀ w ∈ W0, w.before _ s = true := fun w h => hts w (List.mem_cons_of_mem _ h)
  have hown : s.vm.findClass "ImageGcdsModel" = some m.cls := findClass_of_methodNamed B.named
  have hlocks := B.notSynchronized
  have hD : va_D (fun q : Nat => q = h0) (mW h0 th le 0 fs) := mD
  have hS : va_S (fun q : Nat => q = h0) s.heap s.heap [] := va_S.rf
  have hl := lv_entry ([.ref h0, .int p0, .int p1]) (n := 4) (Nat.le_of_ble_eq_true rfl)
  rw [lg_entry_eq]
  generalize (lg_sl ([.ref h0, .int p0, .int p1]) ++ List.replicate (4 - (lg_sl ([.ref h0, .int p0, .int p1])).length) Slot.unset).toArray = ls at hl ⊢
  have hl : lv_has ls 4 [(0, .ref h0), (1, .int p0), (2, .int p1)] := hl
  refine lv_aload_n hx hb dM_add_0 rfl (lv_at hl 0 rfl) ?_
  refine lv_aload_n hx hb dM_add_1 rfl (lv_at hl 0 rfl) ?_
  refine lv_iload_n hx hb dM_add_2 rfl (lv_at hl 1 rfl) ?_
  refine lv_iload_n hx hb dM_add_3 rfl (lv_at hl 2 rfl) ?_
  refine vp_callSi (W.runV (As := [.int p0, .int p1]) (rest := [.ref h0]) ⟨hx, hb, hml, hown, hk⟩ (cM_areNot l dC dI h0 th le fs p0 p1) (cwV 2 hk (gV k81 k82 k83 k71 k84) rfl rfl rfl (by decide +kernel) ⟨Nat.le_of_ble_eq_true rfl, Nat.le_of_ble_eq_true rfl⟩) ⟨mB, va_recv hK hP (ci := 2) (q0 := 0) rfl rfl, mP hP hK⟩ rfl rfl hl.1 rfl (lv_room (Nat.le_of_ble_eq_true rfl)) dM_add_4 ⟨Nat.le_of_ble_eq_true rfl, Nat.le_of_ble_eq_true rfl⟩) (fun r44 hw => ?_)
  subst hw
  refine lv_aload_n hx hb dM_add_7 rfl (lv_at hl 0 rfl) ?_
  refine vp_callSi (W.runV (As := []) (rest := [.int 1, .ref h0]) ⟨hx, hb, hml, hown, hk⟩ (cM_isFull l dC dI h0 th le fs) (cwV 0 hk (gV k85 k86 k87 k71 k88) rfl rfl rfl (by decide +kernel) ⟨Nat.le_of_ble_eq_true rfl, Nat.le_of_ble_eq_true rfl⟩) ⟨mB, va_recv hK hP (ci := 2) (q0 := 0) rfl rfl, mP hP hK⟩ rfl rfl hl.1 rfl (lv_room (Nat.le_of_ble_eq_true rfl)) dM_add_8 ⟨Nat.le_of_ble_eq_true rfl, Nat.le_of_ble_eq_true rfl⟩) (fun r45 hw => ?_)
  subst hw
  refine lv_iconst (v := 0) hx hb dM_add_11 (by decide) ?_
  refine va_calli (va_runV (As := [.int 1, .int 0, .int 0]) (rest := []) ⟨hx, hb, hml, hown, hk⟩ (cM_fails1 l dC dI h0 th le fs 0 0) (cwV 3 hk (gV k77 k78 k79 k71 k80) rfl rfl rfl (by decide +kernel) ⟨Nat.le_of_ble_eq_true rfl, Nat.le_of_ble_eq_true rfl⟩) ⟨mB, va_recv hK hP (ci := 2) (q0 := 0) rfl rfl, mP hP hK⟩ rfl rfl hl.1 rfl (lv_room (Nat.le_of_ble_eq_true rfl)) dM_add_12 ⟨Nat.le_of_ble_eq_true rfl, Nat.le_of_ble_eq_true rfl⟩) hS (fun q _ h => h) (fun q h => h) (fun r46 _ t H1 locs ht hvm hw hB hz1 hk1 hS => ?_)
  subst hw
  obtain ⟨hP, hK1⟩ := hB
  rw [ht] at hP
  generalize H1 = H at hP hS ⊢
  have hD : va_D (fun q : Nat => q = h0) (mW h0 1 le 0 fs) := mD
  refine lv_if_eq (tgt := 20) hx hb dM_add_15 (by decide) (fun c47 => ?_) (fun c47 => ?_)
  · skip
    exact absurd c47 (by decide)
  · skip
    refine lv_iconst (v := 0) hx hb dM_add_18 (by decide) ?_
    exact W.iret (v := 0) hx hb hr (fun t ht hW => ⟨⟨0, (), rfl, rfl, by rw [ht]; exact hP, va_K.moved hW.alike hK⟩, hS.F ht⟩) hS.2.2 dM_add_19
set_option maxHeartbeats 4000000 in
set_option maxRecDepth 100000 in
theorem cM_times (l : Launch) (dC : Nat → ClassId) (dI : Nat → Nat → Nat) (h0 : Nat) (th le : Int32) (fs : List Value) (p0 : Int32) (p1 : Int32) : Met l yM_times wM_times ({ frames := 2, cells := 0, slots := 0, locals := 60 }) (va_Pc [.ref h0, .int p0, .int p1] (mU dC dI h0 th le fs)) (va_Qi (fun (r : Int32) (_ : Unit) => r = 0) (fun _ t => mU dC dI h0 1 le fs t) (fun q => q = h0)) 0 0 (fun q => q = h0) := by
  refine Met.ofW (cc := bM_times) (maxL := 3) (ret := (some .int)) (by decide) rfl ?_
  intro p e s m args below meth c s₁ B hml hv
  obtain ⟨rfl, hP, hK⟩ := hv
  have hx := B.exec
  have hb := B.bytes
  have hr := B.returns
  have hts := atoms_spec (ws := wM_times) B.pre
  have hk : ∀ w ∈ W0, w.before _ s = true := fun w h => hts w (List.mem_cons_of_mem _ h)
  have hown : s.vm.findClass "ImageGcdsModel" = some m.cls := findClass_of_methodNamed B.named
  have hlocks := B.notSynchronized
  have hD : va_D (fun q : Nat => q = h0) (mW h0 th le 0 fs) := mD
  have hS : va_S (fun q : Nat => q = h0) s.heap s.heap [] := va_S.rf
  have hl := lv_entry ([.ref h0, .int p0, .int p1]) (n := 3) (Nat.le_of_ble_eq_true rfl)
  rw [lg_entry_eq]
  generalize (lg_sl ([.ref h0, .int p0, .int p1]) ++ List.replicate (3 - (lg_sl ([.ref h0, .int p0, .int p1])).length) Slot.unset).toArray = ls at hl ⊢
  have hl : lv_has ls 3 [(0, .ref h0), (1, .int p0), (2, .int p1)] := hl
  refine lv_aload_n hx hb dM_times_0 rfl (lv_at hl 0 rfl) ?_
  refine lv_aload_n hx hb dM_times_1 rfl (lv_at hl 0 rfl) ?_
  refine lv_iload_n hx hb dM_times_2 rfl (lv_at hl 1 rfl) ?_
  refine lv_iload_n hx hb dM_times_3 rfl (lv_at hl 2 rfl) ?_
  refine vp_callSi (W.runV (As := [.int p0, .int p1]) (rest := [.ref h0]) ⟨hx, hb, hml, hown, hk⟩ (cM_areNot l dC dI h0 th le fs p0 p1) (cwV 2 hk (gV k81 k82 k83 k71 k84) rfl rfl rfl (by decide +kernel) ⟨Nat.le_of_ble_eq_true rfl, Nat.le_of_ble_eq_true rfl⟩) ⟨mB, va_recv hK hP (ci := 2) (q0 := 0) rfl rfl, mP hP hK⟩ rfl rfl hl.1 rfl (lv_room (Nat.le_of_ble_eq_true rfl)) dM_times_4 ⟨Nat.le_of_ble_eq_true rfl, Nat.le_of_ble_eq_true rfl⟩) (fun r48 hw => ?_)
  subst hw
  refine lv_aload_n hx hb dM_times_7 rfl (lv_at hl 0 rfl) ?_
  refine vp_callSi (W.runV (As := []) (rest := [.int 1, .ref h0]) ⟨hx, hb, hml, hown, hk⟩ (cM_isFull l dC dI h0 th le fs) (cwV 0 hk (gV k85 k86 k87 k71 k88) rfl rfl rfl (by decide +kernel) ⟨Nat.le_of_ble_eq_true rfl, Nat.le_of_ble_eq_true rfl⟩) ⟨mB, va_recv hK hP (ci := 2) (q0 := 0) rfl rfl, mP hP hK⟩ rfl rfl hl.1 rfl (lv_room (Nat.le_of_ble_eq_true rfl)) dM_times_8 ⟨Nat.le_of_ble_eq_true rfl, Nat.le_of_ble_eq_true rfl⟩) (fun r49 hw => ?_)
  subst hw
  refine lv_aload_n hx hb dM_times_11 rfl (lv_at hl 0 rfl) ?_
  refine lv_iload_n hx hb dM_times_12 rfl (lv_at hl 1 rfl) ?_
  refine lv_iload_n hx hb dM_times_13 rfl (lv_at hl 2 rfl) ?_
  refine vp_callSi (W.runV (As := [.int p0, .int p1]) (rest := [.int 0, .int 1, .ref h0]) ⟨hx, hb, hml, hown, hk⟩ (cM_areNot l dC dI h0 th le fs p0 p1) (cwV 2 hk (gV k81 k82 k83 k71 k84) rfl rfl rfl (by decide +kernel) ⟨Nat.le_of_ble_eq_true rfl, Nat.le_of_ble_eq_true rfl⟩) ⟨mB, va_recv hK hP (ci := 2) (q0 := 0) rfl rfl, mP hP hK⟩ rfl rfl hl.1 rfl (lv_room (Nat.le_of_ble_eq_true rfl)) dM_times_14 ⟨Nat.le_of_ble_eq_true rfl, Nat.le_of_ble_eq_true rfl⟩) (fun r50 hw => ?_)
  subst hw
  refine lv_if_ne (tgt := 33) hx hb dM_times_17 (by decide) (fun c51 => ?_) (fun c51 => ?_)
  · skip
    refine lv_iconst (v := 0) hx hb dM_times_33 (by decide) ?_
    refine va_calli (va_runV (As := [.int 1, .int 0, .int 0]) (rest := []) ⟨hx, hb, hml, hown, hk⟩ (cM_fails1 l dC dI h0 th le fs 0 0) (cwV 3 hk (gV k77 k78 k79 k71 k80) rfl rfl rfl (by decide +kernel) ⟨Nat.le_of_ble_eq_true rfl, Nat.le_of_ble_eq_true rfl⟩) ⟨mB, va_recv hK hP (ci := 2) (q0 := 0) rfl rfl, mP hP hK⟩ rfl rfl hl.1 rfl (lv_room (Nat.le_of_ble_eq_true rfl)) dM_times_34 ⟨Nat.le_of_ble_eq_true rfl, Nat.le_of_ble_eq_true rfl⟩) hS (fun q _ h => h) (fun q h => h) (fun r52 _ t H1 locs ht hvm hw hB hz1 hk1 hS => ?_)
    subst hw
    obtain ⟨hP, hK1⟩ := hB
    rw [ht] at hP
    generalize H1 = H at hP hS ⊢
    have hD : va_D (fun q : Nat => q = h0) (mW h0 1 le 0 fs) := mD
    refine lv_if_eq (tgt := 42) hx hb dM_times_37 (by decide) (fun c53 => ?_) (fun c53 => ?_)
    · skip
      exact absurd c53 (by decide)
    · skip
      refine lv_iconst (v := 0) hx hb dM_times_40 (by decide) ?_
      exact W.iret (v := 0) hx hb hr (fun t ht hW => ⟨⟨0, (), rfl, rfl, by rw [ht]; exact hP, va_K.moved hW.alike hK⟩, hS.F ht⟩) hS.2.2 dM_times_41
  · skip
    exact absurd c51 (by decide)
set_option maxHeartbeats 4000000 in
set_option maxRecDepth 100000 in
theorem cM_over (l : Launch) (dC : Nat → ClassId) (dI : Nat → Nat → Nat) (h0 : Nat) (th le : Int32) (fs : List Value) (p0 : Int32) (p1 : Int32) : Met l yM_over wM_over ({ frames := 2, cells := 0, slots := 0, locals := 60 }) (va_Pc [.ref h0, .int p0, .int p1] (mU dC dI h0 th le fs)) (va_Qi (fun (r : Int32) (_ : Unit) => r = 0) (fun _ t => mU dC dI h0 1 le fs t) (fun q => q = h0)) 0 0 (fun q => q = h0) := by
  refine Met.ofW (cc := bM_over) (maxL := 3) (ret := (some .int)) (by decide) rfl ?_
  intro p e s m args below meth c s₁ B hml hv
  obtain ⟨rfl, hP, hK⟩ := hv
  have hx := B.exec
  have hb := B.bytes
  have hr := B.returns
  have hts := atoms_spec (ws := wM_over) B.pre
  have hk : ∀ w ∈ W0, w.before _ s = true := fun w h => hts w (List.mem_cons_of_mem _ h)
  have hown : s.vm.findClass "ImageGcdsModel" = some m.cls := findClass_of_methodNamed B.named
  have hlocks := B.notSynchronized
  have hD : va_D (fun q : Nat => q = h0) (mW h0 th le 0 fs) := mD
  have hS : va_S (fun q : Nat => q = h0) s.heap s.heap [] := va_S.rf
  have hl := lv_entry ([.ref h0, .int p0, .int p1]) (n := 3) (Nat.le_of_ble_eq_true rfl)
  rw [lg_entry_eq]
  generalize (lg_sl ([.ref h0, .int p0, .int p1]) ++ List.replicate (3 - (lg_sl ([.ref h0, .int p0, .int p1])).length) Slot.unset).toArray = ls at hl ⊢
  have hl : lv_has ls 3 [(0, .ref h0), (1, .int p0), (2, .int p1)] := hl
  refine lv_aload_n hx hb dM_over_0 rfl (lv_at hl 0 rfl) ?_
  refine lv_aload_n hx hb dM_over_1 rfl (lv_at hl 0 rfl) ?_
  refine lv_iload_n hx hb dM_over_2 rfl (lv_at hl 1 rfl) ?_
  refine lv_iload_n hx hb dM_over_3 rfl (lv_at hl 2 rfl) ?_
  refine vp_callSi (W.runV (As := [.int p0, .int p1]) (rest := [.ref h0]) ⟨hx, hb, hml, hown, hk⟩ (cM_areNot l dC dI h0 th le fs p0 p1) (cwV 2 hk (gV k81 k82 k83 k71 k84) rfl rfl rfl (by decide +kernel) ⟨Nat.le_of_ble_eq_true rfl, Nat.le_of_ble_eq_true rfl⟩) ⟨mB, va_recv hK hP (ci := 2) (q0 := 0) rfl rfl, mP hP hK⟩ rfl rfl hl.1 rfl (lv_room (Nat.le_of_ble_eq_true rfl)) dM_over_4 ⟨Nat.le_of_ble_eq_true rfl, Nat.le_of_ble_eq_true rfl⟩) (fun r54 hw => ?_)
  subst hw
  refine lv_aload_n hx hb dM_over_7 rfl (lv_at hl 0 rfl) ?_
  refine vp_callSi (W.runV (As := []) (rest := [.int 1, .ref h0]) ⟨hx, hb, hml, hown, hk⟩ (cM_isFull l dC dI h0 th le fs) (cwV 0 hk (gV k85 k86 k87 k71 k88) rfl rfl rfl (by decide +kernel) ⟨Nat.le_of_ble_eq_true rfl, Nat.le_of_ble_eq_true rfl⟩) ⟨mB, va_recv hK hP (ci := 2) (q0 := 0) rfl rfl, mP hP hK⟩ rfl rfl hl.1 rfl (lv_room (Nat.le_of_ble_eq_true rfl)) dM_over_8 ⟨Nat.le_of_ble_eq_true rfl, Nat.le_of_ble_eq_true rfl⟩) (fun r55 hw => ?_)
  subst hw
  refine lv_iconst (v := 0) hx hb dM_over_11 (by decide) ?_
  refine va_calli (va_runV (As := [.int 1, .int 0, .int 0]) (rest := []) ⟨hx, hb, hml, hown, hk⟩ (cM_fails1 l dC dI h0 th le fs 0 0) (cwV 3 hk (gV k77 k78 k79 k71 k80) rfl rfl rfl (by decide +kernel) ⟨Nat.le_of_ble_eq_true rfl, Nat.le_of_ble_eq_true rfl⟩) ⟨mB, va_recv hK hP (ci := 2) (q0 := 0) rfl rfl, mP hP hK⟩ rfl rfl hl.1 rfl (lv_room (Nat.le_of_ble_eq_true rfl)) dM_over_12 ⟨Nat.le_of_ble_eq_true rfl, Nat.le_of_ble_eq_true rfl⟩) hS (fun q _ h => h) (fun q h => h) (fun r56 _ t H1 locs ht hvm hw hB hz1 hk1 hS => ?_)
  subst hw
  obtain ⟨hP, hK1⟩ := hB
  rw [ht] at hP
  generalize H1 = H at hP hS ⊢
  have hD : va_D (fun q : Nat => q = h0) (mW h0 1 le 0 fs) := mD
  refine lv_if_eq (tgt := 20) hx hb dM_over_15 (by decide) (fun c57 => ?_) (fun c57 => ?_)
  · skip
    exact absurd c57 (by decide)
  · skip
    refine lv_iconst (v := 0) hx hb dM_over_18 (by decide) ?_
    exact W.iret (v := 0) hx hb hr (fun t ht hW => ⟨⟨0, (), rfl, rfl, by rw [ht]; exact hP, va_K.moved hW.alike hK⟩, hS.F ht⟩) hS.2.2 dM_over_19
set_option maxHeartbeats 4000000 in
set_option maxRecDepth 100000 in
theorem cM_gcd (l : Launch) (dC : Nat → ClassId) (dI : Nat → Nat → Nat) (h0 : Nat) (th le : Int32) (fs : List Value) (p0 : Int32) (p1 : Int32) : Met l yM_gcd wM_gcd ({ frames := 2, cells := 0, slots := 0, locals := 60 }) (va_Pc [.ref h0, .int p0, .int p1] (mU dC dI h0 th le fs)) (va_Qi (fun (r : Int32) (_ : Unit) => r = 0) (fun _ t => mU dC dI h0 1 le fs t) (fun q => q = h0)) 0 0 (fun q => q = h0) := by
  refine Met.ofW (cc := bM_gcd) (maxL := 3) (ret := (some .int)) (by decide) rfl ?_
  intro p e s m args below meth c s₁ B hml hv
  obtain ⟨rfl, hP, hK⟩ := hv
  have hx := B.exec
  have hb := B.bytes
  have hr := B.returns
  have hts := atoms_spec (ws := wM_gcd) B.pre
  have hk : ∀ w ∈ W0, w.before _ s = true := fun w h => hts w (List.mem_cons_of_mem _ h)
  have hown : s.vm.findClass "ImageGcdsModel" = some m.cls := findClass_of_methodNamed B.named
  have hlocks := B.notSynchronized
  have hD : va_D (fun q : Nat => q = h0) (mW h0 th le 0 fs) := mD
  have hS : va_S (fun q : Nat => q = h0) s.heap s.heap [] := va_S.rf
  have hl := lv_entry ([.ref h0, .int p0, .int p1]) (n := 3) (Nat.le_of_ble_eq_true rfl)
  rw [lg_entry_eq]
  generalize (lg_sl ([.ref h0, .int p0, .int p1]) ++ List.replicate (3 - (lg_sl ([.ref h0, .int p0, .int p1])).length) Slot.unset).toArray = ls at hl ⊢
  have hl : lv_has ls 3 [(0, .ref h0), (1, .int p0), (2, .int p1)] := hl
  refine lv_aload_n hx hb dM_gcd_0 rfl (lv_at hl 0 rfl) ?_
  refine lv_aload_n hx hb dM_gcd_1 rfl (lv_at hl 0 rfl) ?_
  refine lv_iload_n hx hb dM_gcd_2 rfl (lv_at hl 1 rfl) ?_
  refine lv_iload_n hx hb dM_gcd_3 rfl (lv_at hl 2 rfl) ?_
  refine vp_callSi (W.runV (As := [.int p0, .int p1]) (rest := [.ref h0]) ⟨hx, hb, hml, hown, hk⟩ (cM_areNot l dC dI h0 th le fs p0 p1) (cwV 2 hk (gV k81 k82 k83 k71 k84) rfl rfl rfl (by decide +kernel) ⟨Nat.le_of_ble_eq_true rfl, Nat.le_of_ble_eq_true rfl⟩) ⟨mB, va_recv hK hP (ci := 2) (q0 := 0) rfl rfl, mP hP hK⟩ rfl rfl hl.1 rfl (lv_room (Nat.le_of_ble_eq_true rfl)) dM_gcd_4 ⟨Nat.le_of_ble_eq_true rfl, Nat.le_of_ble_eq_true rfl⟩) (fun r58 hw => ?_)
  subst hw
  refine lv_aload_n hx hb dM_gcd_7 rfl (lv_at hl 0 rfl) ?_
  refine vp_callSi (W.runV (As := []) (rest := [.int 1, .ref h0]) ⟨hx, hb, hml, hown, hk⟩ (cM_isFull l dC dI h0 th le fs) (cwV 0 hk (gV k85 k86 k87 k71 k88) rfl rfl rfl (by decide +kernel) ⟨Nat.le_of_ble_eq_true rfl, Nat.le_of_ble_eq_true rfl⟩) ⟨mB, va_recv hK hP (ci := 2) (q0 := 0) rfl rfl, mP hP hK⟩ rfl rfl hl.1 rfl (lv_room (Nat.le_of_ble_eq_true rfl)) dM_gcd_8 ⟨Nat.le_of_ble_eq_true rfl, Nat.le_of_ble_eq_true rfl⟩) (fun r59 hw => ?_)
  subst hw
  refine lv_iconst (v := 0) hx hb dM_gcd_11 (by decide) ?_
  refine va_calli (va_runV (As := [.int 1, .int 0, .int 0]) (rest := []) ⟨hx, hb, hml, hown, hk⟩ (cM_fails1 l dC dI h0 th le fs 0 0) (cwV 3 hk (gV k77 k78 k79 k71 k80) rfl rfl rfl (by decide +kernel) ⟨Nat.le_of_ble_eq_true rfl, Nat.le_of_ble_eq_true rfl⟩) ⟨mB, va_recv hK hP (ci := 2) (q0 := 0) rfl rfl, mP hP hK⟩ rfl rfl hl.1 rfl (lv_room (Nat.le_of_ble_eq_true rfl)) dM_gcd_12 ⟨Nat.le_of_ble_eq_true rfl, Nat.le_of_ble_eq_true rfl⟩) hS (fun q _ h => h) (fun q h => h) (fun r60 _ t H1 locs ht hvm hw hB hz1 hk1 hS => ?_)
  subst hw
  obtain ⟨hP, hK1⟩ := hB
  rw [ht] at hP
  generalize H1 = H at hP hS ⊢
  have hD : va_D (fun q : Nat => q = h0) (mW h0 1 le 0 fs) := mD
  refine lv_if_eq (tgt := 20) hx hb dM_gcd_15 (by decide) (fun c61 => ?_) (fun c61 => ?_)
  · skip
    exact absurd c61 (by decide)
  · skip
    refine lv_iconst (v := 0) hx hb dM_gcd_18 (by decide) ?_
    exact W.iret (v := 0) hx hb hr (fun t ht hW => ⟨⟨0, (), rfl, rfl, by rw [ht]; exact hP, va_K.moved hW.alike hK⟩, hS.F ht⟩) hS.2.2 dM_gcd_19
set_option maxHeartbeats 4000000 in
set_option maxRecDepth 100000 in
theorem cM_resultant (l : Launch) (dC : Nat → ClassId) (dI : Nat → Nat → Nat) (h0 : Nat) (th le : Int32) (fs : List Value) (p0 : Int32) (p1 : Int32) (p2 : Int32) : Met l yM_resultant wM_resultant ({ frames := 2, cells := 0, slots := 0, locals := 60 }) (va_Pc [.ref h0, .int p0, .int p1, .int p2] (mU dC dI h0 th le fs)) (va_Qi (fun (r : Int32) (_ : Unit) => r = 0) (fun _ t => mU dC dI h0 1 le fs t) (fun q => q = h0)) 0 0 (fun q => q = h0) := by
  refine Met.ofW (cc := bM_resultant) (maxL := 12) (ret := (some .int)) (by decide) rfl ?_
  intro p e s m args below meth c s₁ B hml hv
  obtain ⟨rfl, hP, hK⟩ := hv
  have hx := B.exec
  have hb := B.bytes
  have hr := B.returns
  have hts := atoms_spec (ws := wM_resultant) B.pre
  have hk : ∀ w ∈ W0, w.before _ s = true := fun w h => hts w (List.mem_cons_of_mem _ h)
  have hown : s.vm.findClass "ImageGcdsModel" = some m.cls := findClass_of_methodNamed B.named
  have hlocks := B.notSynchronized
  have hD : va_D (fun q : Nat => q = h0) (mW h0 th le 0 fs) := mD
  have hS : va_S (fun q : Nat => q = h0) s.heap s.heap [] := va_S.rf
  have hl := lv_entry ([.ref h0, .int p0, .int p1, .int p2]) (n := 12) (Nat.le_of_ble_eq_true rfl)
  rw [lg_entry_eq]
  generalize (lg_sl ([.ref h0, .int p0, .int p1, .int p2]) ++ List.replicate (12 - (lg_sl ([.ref h0, .int p0, .int p1, .int p2])).length) Slot.unset).toArray = ls at hl ⊢
  have hl : lv_has ls 12 [(0, .ref h0), (1, .int p0), (2, .int p1), (3, .int p2)] := hl
  refine lv_aload_n hx hb dM_resultant_0 rfl (lv_at hl 0 rfl) ?_
  refine lv_iload_n hx hb dM_resultant_1 rfl (lv_at hl 1 rfl) ?_
  refine lv_iload_n hx hb dM_resultant_2 rfl (lv_at hl 2 rfl) ?_
  refine vp_callSi (W.runV (As := [.int p0, .int p1]) (rest := []) ⟨hx, hb, hml, hown, hk⟩ (cM_areNot l dC dI h0 th le fs p0 p1) (cwV 2 hk (gV k81 k82 k83 k71 k84) rfl rfl rfl (by decide +kernel) ⟨Nat.le_of_ble_eq_true rfl, Nat.le_of_ble_eq_true rfl⟩) ⟨mB, va_recv hK hP (ci := 2) (q0 := 0) rfl rfl, mP hP hK⟩ rfl rfl hl.1 rfl (lv_room (Nat.le_of_ble_eq_true rfl)) dM_resultant_3 ⟨Nat.le_of_ble_eq_true rfl, Nat.le_of_ble_eq_true rfl⟩) (fun r62 hw => ?_)
  subst hw
  refine lv_istore (lv' := [(4, .int 1), (0, .ref h0), (1, .int p0), (2, .int p1), (3, .int p2)]) hx hb dM_resultant_6 hl (by decide) rfl (fun ls hl => ?_)
  refine lv_iload hx hb dM_resultant_8 (lv_at hl 0 rfl) ?_
  refine lv_if_ne (tgt := 35) hx hb dM_resultant_10 (by decide) (fun c63 => ?_) (fun c63 => ?_)
  · skip
    refine lv_iconst (v := 0) hx hb dM_resultant_35 (by decide) ?_
    refine lv_istore (lv' := [(5, .int 0), (4, .int 1), (0, .ref h0), (1, .int p0), (2, .int p1), (3, .int p2)]) hx hb dM_resultant_36 hl (by decide) rfl (fun ls hl => ?_)
    refine lv_aload_n hx hb dM_resultant_38 rfl (lv_at hl 2 rfl) ?_
    refine lv_iload hx hb dM_resultant_39 (lv_at hl 1 rfl) ?_
    refine lv_aload_n hx hb dM_resultant_41 rfl (lv_at hl 2 rfl) ?_
    refine vp_callSi (W.runV (As := []) (rest := [.int 1, .ref h0]) ⟨hx, hb, hml, hown, hk⟩ (cM_isFull l dC dI h0 th le fs) (cwV 0 hk (gV k85 k86 k87 k71 k88) rfl rfl rfl (by decide +kernel) ⟨Nat.le_of_ble_eq_true rfl, Nat.le_of_ble_eq_true rfl⟩) ⟨mB, va_recv hK hP (ci := 2) (q0 := 0) rfl rfl, mP hP hK⟩ rfl rfl hl.1 rfl (lv_room (Nat.le_of_ble_eq_true rfl)) dM_resultant_42 ⟨Nat.le_of_ble_eq_true rfl, Nat.le_of_ble_eq_true rfl⟩) (fun r64 hw => ?_)
    subst hw
    refine lv_iload hx hb dM_resultant_45 (lv_at hl 0 rfl) ?_
    refine va_calli (va_runV (As := [.int 1, .int 0, .int 0]) (rest := []) ⟨hx, hb, hml, hown, hk⟩ (cM_fails1 l dC dI h0 th le fs 0 0) (cwV 3 hk (gV k77 k78 k79 k71 k80) rfl rfl rfl (by decide +kernel) ⟨Nat.le_of_ble_eq_true rfl, Nat.le_of_ble_eq_true rfl⟩) ⟨mB, va_recv hK hP (ci := 2) (q0 := 0) rfl rfl, mP hP hK⟩ rfl rfl hl.1 rfl (lv_room (Nat.le_of_ble_eq_true rfl)) dM_resultant_47 ⟨Nat.le_of_ble_eq_true rfl, Nat.le_of_ble_eq_true rfl⟩) hS (fun q _ h => h) (fun q h => h) (fun r65 _ t H1 locs ht hvm hw hB hz1 hk1 hS => ?_)
    subst hw
    obtain ⟨hP, hK1⟩ := hB
    rw [ht] at hP
    generalize H1 = H at hP hS ⊢
    have hD : va_D (fun q : Nat => q = h0) (mW h0 1 le 0 fs) := mD
    refine lv_if_eq (tgt := 55) hx hb dM_resultant_50 (by decide) (fun c66 => ?_) (fun c66 => ?_)
    · skip
      exact absurd c66 (by decide)
    · skip
      refine lv_iconst (v := 0) hx hb dM_resultant_53 (by decide) ?_
      exact W.iret (v := 0) hx hb hr (fun t ht hW => ⟨⟨0, (), rfl, rfl, by rw [ht]; exact hP, va_K.moved hW.alike hK⟩, hS.F ht⟩) hS.2.2 dM_resultant_54
  · skip
    exact absurd c63 (by decide)
set_option maxHeartbeats 4000000 in
set_option maxRecDepth 100000 in
theorem cM_slope (l : Launch) (dC : Nat → ClassId) (dI : Nat → Nat → Nat) (h0 : Nat) (th le : Int32) (fs : List Value) (p0 : Int32) (p1 : Int32) : Met l yM_slope wM_slope ({ frames := 2, cells := 0, slots := 0, locals := 60 }) (va_Pc [.ref h0, .int p0, .int p1] (mU dC dI h0 th le fs)) (va_Qi (fun (r : Int32) (_ : Unit) => r = 0) (fun _ t => mU dC dI h0 1 le fs t) (fun q => q = h0)) 0 0 (fun q => q = h0) := by
  refine Met.ofW (cc := bM_slope) (maxL := 3) (ret := (some .int)) (by decide) rfl ?_
  intro p e s m args below meth c s₁ B hml hv
  obtain ⟨rfl, hP, hK⟩ := hv
  have hx := B.exec
  have hb := B.bytes
  have hr := B.returns
  have hts := atoms_spec (ws := wM_slope) B.pre
  have hk : ∀ w ∈ W0, w.before _ s = true := fun w h => hts w (List.mem_cons_of_mem _ h)
  have hown : s.vm.findClass "ImageGcdsModel" = some m.cls := findClass_of_methodNamed B.named
  have hlocks := B.notSynchronized
  have hD : va_D (fun q : Nat => q = h0) (mW h0 th le 0 fs) := mD
  have hS : va_S (fun q : Nat => q = h0) s.heap s.heap [] := va_S.rf
  have hl := lv_entry ([.ref h0, .int p0, .int p1]) (n := 3) (Nat.le_of_ble_eq_true rfl)
  rw [lg_entry_eq]
  generalize (lg_sl ([.ref h0, .int p0, .int p1]) ++ List.replicate (3 - (lg_sl ([.ref h0, .int p0, .int p1])).length) Slot.unset).toArray = ls at hl ⊢
  have hl : lv_has ls 3 [(0, .ref h0), (1, .int p0), (2, .int p1)] := hl
  refine lv_aload_n hx hb dM_slope_0 rfl (lv_at hl 0 rfl) ?_
  refine lv_aload_n hx hb dM_slope_1 rfl (lv_at hl 0 rfl) ?_
  refine lv_iload_n hx hb dM_slope_2 rfl (lv_at hl 1 rfl) ?_
  refine vp_callSi (W.runV (As := [.int p0]) (rest := [.ref h0]) ⟨hx, hb, hml, hown, hk⟩ (cM_isPoly l dC dI h0 th le fs p0) (cwV 1 hk (gV k68 k69 k70 k71 k72) rfl rfl rfl (by decide +kernel) ⟨Nat.le_of_ble_eq_true rfl, Nat.le_of_ble_eq_true rfl⟩) ⟨mB, va_recv hK hP (ci := 2) (q0 := 0) rfl rfl, mP hP hK⟩ rfl rfl hl.1 rfl (lv_room (Nat.le_of_ble_eq_true rfl)) dM_slope_3 ⟨Nat.le_of_ble_eq_true rfl, Nat.le_of_ble_eq_true rfl⟩) (fun r67 hw => ?_)
  subst hw
  refine lv_if_ne (tgt := 13) hx hb dM_slope_6 (by decide) (fun c68 => ?_) (fun c68 => ?_)
  · skip
    exact absurd c68 (by decide)
  · skip
    refine lv_iconst (v := 1) hx hb dM_slope_9 (by decide) ?_
    refine lv_goto (tgt := 14) hx hb dM_slope_10 (by decide) ?_
    refine lv_aload_n hx hb dM_slope_14 rfl (lv_at hl 0 rfl) ?_
    refine vp_callSi (W.runV (As := []) (rest := [.int 1, .ref h0]) ⟨hx, hb, hml, hown, hk⟩ (cM_isFull l dC dI h0 th le fs) (cwV 0 hk (gV k85 k86 k87 k71 k88) rfl rfl rfl (by decide +kernel) ⟨Nat.le_of_ble_eq_true rfl, Nat.le_of_ble_eq_true rfl⟩) ⟨mB, va_recv hK hP (ci := 2) (q0 := 0) rfl rfl, mP hP hK⟩ rfl rfl hl.1 rfl (lv_room (Nat.le_of_ble_eq_true rfl)) dM_slope_15 ⟨Nat.le_of_ble_eq_true rfl, Nat.le_of_ble_eq_true rfl⟩) (fun r69 hw => ?_)
    subst hw
    refine lv_aload_n hx hb dM_slope_18 rfl (lv_at hl 0 rfl) ?_
    refine lv_iload_n hx hb dM_slope_19 rfl (lv_at hl 2 rfl) ?_
    refine vp_callSi (W.runV (As := [.int p1]) (rest := [.int 0, .int 1, .ref h0]) ⟨hx, hb, hml, hown, hk⟩ (cM_isLetter l dC dI h0 th le fs p1) (cwV 1 hk (gV k89 k90 k91 k71 k92) rfl rfl rfl (by decide +kernel) ⟨Nat.le_of_ble_eq_true rfl, Nat.le_of_ble_eq_true rfl⟩) ⟨mB, va_recv hK hP (ci := 2) (q0 := 0) rfl rfl, mP hP hK⟩ rfl rfl hl.1 rfl (lv_room (Nat.le_of_ble_eq_true rfl)) dM_slope_20 ⟨Nat.le_of_ble_eq_true rfl, Nat.le_of_ble_eq_true rfl⟩) (fun r70 hw => ?_)
    refine lv_if_ne (tgt := 30) hx hb dM_slope_23 (by decide) (fun c71 => ?_) (fun c71 => ?_)
    · skip
      refine lv_iconst (v := 0) hx hb dM_slope_30 (by decide) ?_
      refine va_calli (va_runV (As := [.int 1, .int 0, .int 0]) (rest := []) ⟨hx, hb, hml, hown, hk⟩ (cM_fails1 l dC dI h0 th le fs 0 0) (cwV 3 hk (gV k77 k78 k79 k71 k80) rfl rfl rfl (by decide +kernel) ⟨Nat.le_of_ble_eq_true rfl, Nat.le_of_ble_eq_true rfl⟩) ⟨mB, va_recv hK hP (ci := 2) (q0 := 0) rfl rfl, mP hP hK⟩ rfl rfl hl.1 rfl (lv_room (Nat.le_of_ble_eq_true rfl)) dM_slope_31 ⟨Nat.le_of_ble_eq_true rfl, Nat.le_of_ble_eq_true rfl⟩) hS (fun q _ h => h) (fun q h => h) (fun r72 _ t H1 locs ht hvm hw hB hz1 hk1 hS => ?_)
      subst hw
      obtain ⟨hP, hK1⟩ := hB
      rw [ht] at hP
      generalize H1 = H at hP hS ⊢
      have hD : va_D (fun q : Nat => q = h0) (mW h0 1 le 0 fs) := mD
      refine lv_if_eq (tgt := 39) hx hb dM_slope_34 (by decide) (fun c73 => ?_) (fun c73 => ?_)
      · skip
        exact absurd c73 (by decide)
      · skip
        refine lv_iconst (v := 0) hx hb dM_slope_37 (by decide) ?_
        exact W.iret (v := 0) hx hb hr (fun t ht hW => ⟨⟨0, (), rfl, rfl, by rw [ht]; exact hP, va_K.moved hW.alike hK⟩, hS.F ht⟩) hS.2.2 dM_slope_38
    · skip
      refine lv_iconst (v := 1) hx hb dM_slope_26 (by decide) ?_
      refine lv_goto (tgt := 31) hx hb dM_slope_27 (by decide) ?_
      refine va_calli (va_runV (As := [.int 1, .int 0, .int 1]) (rest := []) ⟨hx, hb, hml, hown, hk⟩ (cM_fails1 l dC dI h0 th le fs 0 1) (cwV 3 hk (gV k77 k78 k79 k71 k80) rfl rfl rfl (by decide +kernel) ⟨Nat.le_of_ble_eq_true rfl, Nat.le_of_ble_eq_true rfl⟩) ⟨mB, va_recv hK hP (ci := 2) (q0 := 0) rfl rfl, mP hP hK⟩ rfl rfl hl.1 rfl (lv_room (Nat.le_of_ble_eq_true rfl)) dM_slope_31 ⟨Nat.le_of_ble_eq_true rfl, Nat.le_of_ble_eq_true rfl⟩) hS (fun q _ h => h) (fun q h => h) (fun r74 _ t H1 locs ht hvm hw hB hz1 hk1 hS => ?_)
      subst hw
      obtain ⟨hP, hK1⟩ := hB
      rw [ht] at hP
      generalize H1 = H at hP hS ⊢
      have hD : va_D (fun q : Nat => q = h0) (mW h0 1 le 0 fs) := mD
      refine lv_if_eq (tgt := 39) hx hb dM_slope_34 (by decide) (fun c75 => ?_) (fun c75 => ?_)
      · skip
        exact absurd c75 (by decide)
      · skip
        refine lv_iconst (v := 0) hx hb dM_slope_37 (by decide) ?_
        exact W.iret (v := 0) hx hb hr (fun t ht hW => ⟨⟨0, (), rfl, rfl, by rw [ht]; exact hP, va_K.moved hW.alike hK⟩, hS.F ht⟩) hS.2.2 dM_slope_38
set_option maxHeartbeats 4000000 in
set_option maxRecDepth 100000 in
theorem cM_content (l : Launch) (dC : Nat → ClassId) (dI : Nat → Nat → Nat) (h0 : Nat) (th le : Int32) (fs : List Value) (p0 : Int32) (p1 : Int32) : Met l yM_content wM_content ({ frames := 2, cells := 0, slots := 0, locals := 60 }) (va_Pc [.ref h0, .int p0, .int p1] (mU dC dI h0 th le fs)) (va_Qi (fun (r : Int32) (_ : Unit) => r = 0) (fun _ t => mU dC dI h0 1 le fs t) (fun q => q = h0)) 0 0 (fun q => q = h0) := by
  refine Met.ofW (cc := bM_content) (maxL := 5) (ret := (some .int)) (by decide) rfl ?_
  intro p e s m args below meth c s₁ B hml hv
  obtain ⟨rfl, hP, hK⟩ := hv
  have hx := B.exec
  have hb := B.bytes
  have hr := B.returns
  have hts := atoms_spec (ws := wM_content) B.pre
  have hk : ∀ w ∈ W0, w.before _ s = true := fun w h => hts w (List.mem_cons_of_mem _ h)
  have hown : s.vm.findClass "ImageGcdsModel" = some m.cls := findClass_of_methodNamed B.named
  have hlocks := B.notSynchronized
  have hD : va_D (fun q : Nat => q = h0) (mW h0 th le 0 fs) := mD
  have hS : va_S (fun q : Nat => q = h0) s.heap s.heap [] := va_S.rf
  have hl := lv_entry ([.ref h0, .int p0, .int p1]) (n := 5) (Nat.le_of_ble_eq_true rfl)
  rw [lg_entry_eq]
  generalize (lg_sl ([.ref h0, .int p0, .int p1]) ++ List.replicate (5 - (lg_sl ([.ref h0, .int p0, .int p1])).length) Slot.unset).toArray = ls at hl ⊢
  have hl : lv_has ls 5 [(0, .ref h0), (1, .int p0), (2, .int p1)] := hl
  refine lv_aload_n hx hb dM_content_0 rfl (lv_at hl 0 rfl) ?_
  refine lv_aload_n hx hb dM_content_1 rfl (lv_at hl 0 rfl) ?_
  refine lv_iload_n hx hb dM_content_2 rfl (lv_at hl 1 rfl) ?_
  refine vp_callSi (W.runV (As := [.int p0]) (rest := [.ref h0]) ⟨hx, hb, hml, hown, hk⟩ (cM_isPoly l dC dI h0 th le fs p0) (cwV 1 hk (gV k68 k69 k70 k71 k72) rfl rfl rfl (by decide +kernel) ⟨Nat.le_of_ble_eq_true rfl, Nat.le_of_ble_eq_true rfl⟩) ⟨mB, va_recv hK hP (ci := 2) (q0 := 0) rfl rfl, mP hP hK⟩ rfl rfl hl.1 rfl (lv_room (Nat.le_of_ble_eq_true rfl)) dM_content_3 ⟨Nat.le_of_ble_eq_true rfl, Nat.le_of_ble_eq_true rfl⟩) (fun r76 hw => ?_)
  subst hw
  refine lv_if_ne (tgt := 13) hx hb dM_content_6 (by decide) (fun c77 => ?_) (fun c77 => ?_)
  · skip
    exact absurd c77 (by decide)
  · skip
    refine lv_iconst (v := 1) hx hb dM_content_9 (by decide) ?_
    refine lv_goto (tgt := 14) hx hb dM_content_10 (by decide) ?_
    refine lv_aload_n hx hb dM_content_14 rfl (lv_at hl 0 rfl) ?_
    refine vp_callSi (W.runV (As := []) (rest := [.int 1, .ref h0]) ⟨hx, hb, hml, hown, hk⟩ (cM_isFull l dC dI h0 th le fs) (cwV 0 hk (gV k85 k86 k87 k71 k88) rfl rfl rfl (by decide +kernel) ⟨Nat.le_of_ble_eq_true rfl, Nat.le_of_ble_eq_true rfl⟩) ⟨mB, va_recv hK hP (ci := 2) (q0 := 0) rfl rfl, mP hP hK⟩ rfl rfl hl.1 rfl (lv_room (Nat.le_of_ble_eq_true rfl)) dM_content_15 ⟨Nat.le_of_ble_eq_true rfl, Nat.le_of_ble_eq_true rfl⟩) (fun r78 hw => ?_)
    subst hw
    refine lv_aload_n hx hb dM_content_18 rfl (lv_at hl 0 rfl) ?_
    refine lv_iload_n hx hb dM_content_19 rfl (lv_at hl 2 rfl) ?_
    refine vp_callSi (W.runV (As := [.int p1]) (rest := [.int 0, .int 1, .ref h0]) ⟨hx, hb, hml, hown, hk⟩ (cM_isLetter l dC dI h0 th le fs p1) (cwV 1 hk (gV k89 k90 k91 k71 k92) rfl rfl rfl (by decide +kernel) ⟨Nat.le_of_ble_eq_true rfl, Nat.le_of_ble_eq_true rfl⟩) ⟨mB, va_recv hK hP (ci := 2) (q0 := 0) rfl rfl, mP hP hK⟩ rfl rfl hl.1 rfl (lv_room (Nat.le_of_ble_eq_true rfl)) dM_content_20 ⟨Nat.le_of_ble_eq_true rfl, Nat.le_of_ble_eq_true rfl⟩) (fun r79 hw => ?_)
    refine lv_if_ne (tgt := 30) hx hb dM_content_23 (by decide) (fun c80 => ?_) (fun c80 => ?_)
    · skip
      refine lv_iconst (v := 0) hx hb dM_content_30 (by decide) ?_
      refine va_calli (va_runV (As := [.int 1, .int 0, .int 0]) (rest := []) ⟨hx, hb, hml, hown, hk⟩ (cM_fails1 l dC dI h0 th le fs 0 0) (cwV 3 hk (gV k77 k78 k79 k71 k80) rfl rfl rfl (by decide +kernel) ⟨Nat.le_of_ble_eq_true rfl, Nat.le_of_ble_eq_true rfl⟩) ⟨mB, va_recv hK hP (ci := 2) (q0 := 0) rfl rfl, mP hP hK⟩ rfl rfl hl.1 rfl (lv_room (Nat.le_of_ble_eq_true rfl)) dM_content_31 ⟨Nat.le_of_ble_eq_true rfl, Nat.le_of_ble_eq_true rfl⟩) hS (fun q _ h => h) (fun q h => h) (fun r81 _ t H1 locs ht hvm hw hB hz1 hk1 hS => ?_)
      subst hw
      obtain ⟨hP, hK1⟩ := hB
      rw [ht] at hP
      generalize H1 = H at hP hS ⊢
      have hD : va_D (fun q : Nat => q = h0) (mW h0 1 le 0 fs) := mD
      refine lv_if_eq (tgt := 39) hx hb dM_content_34 (by decide) (fun c82 => ?_) (fun c82 => ?_)
      · skip
        exact absurd c82 (by decide)
      · skip
        refine lv_iconst (v := 0) hx hb dM_content_37 (by decide) ?_
        exact W.iret (v := 0) hx hb hr (fun t ht hW => ⟨⟨0, (), rfl, rfl, by rw [ht]; exact hP, va_K.moved hW.alike hK⟩, hS.F ht⟩) hS.2.2 dM_content_38
    · skip
      refine lv_iconst (v := 1) hx hb dM_content_26 (by decide) ?_
      refine lv_goto (tgt := 31) hx hb dM_content_27 (by decide) ?_
      refine va_calli (va_runV (As := [.int 1, .int 0, .int 1]) (rest := []) ⟨hx, hb, hml, hown, hk⟩ (cM_fails1 l dC dI h0 th le fs 0 1) (cwV 3 hk (gV k77 k78 k79 k71 k80) rfl rfl rfl (by decide +kernel) ⟨Nat.le_of_ble_eq_true rfl, Nat.le_of_ble_eq_true rfl⟩) ⟨mB, va_recv hK hP (ci := 2) (q0 := 0) rfl rfl, mP hP hK⟩ rfl rfl hl.1 rfl (lv_room (Nat.le_of_ble_eq_true rfl)) dM_content_31 ⟨Nat.le_of_ble_eq_true rfl, Nat.le_of_ble_eq_true rfl⟩) hS (fun q _ h => h) (fun q h => h) (fun r83 _ t H1 locs ht hvm hw hB hz1 hk1 hS => ?_)
      subst hw
      obtain ⟨hP, hK1⟩ := hB
      rw [ht] at hP
      generalize H1 = H at hP hS ⊢
      have hD : va_D (fun q : Nat => q = h0) (mW h0 1 le 0 fs) := mD
      refine lv_if_eq (tgt := 39) hx hb dM_content_34 (by decide) (fun c84 => ?_) (fun c84 => ?_)
      · skip
        exact absurd c84 (by decide)
      · skip
        refine lv_iconst (v := 0) hx hb dM_content_37 (by decide) ?_
        exact W.iret (v := 0) hx hb hr (fun t ht hW => ⟨⟨0, (), rfl, rfl, by rw [ht]; exact hP, va_K.moved hW.alike hK⟩, hS.F ht⟩) hS.2.2 dM_content_38
set_option maxHeartbeats 4000000 in
set_option maxRecDepth 100000 in
theorem cM_part (l : Launch) (dC : Nat → ClassId) (dI : Nat → Nat → Nat) (h0 : Nat) (th le : Int32) (fs : List Value) (p0 : Int32) (p1 : Int32) : Met l yM_part wM_part ({ frames := 2, cells := 0, slots := 0, locals := 60 }) (va_Pc [.ref h0, .int p0, .int p1] (mU dC dI h0 th le fs)) (va_Qi (fun (r : Int32) (_ : Unit) => r = 0) (fun _ t => mU dC dI h0 1 le fs t) (fun q => q = h0)) 0 0 (fun q => q = h0) := by
  refine Met.ofW (cc := bM_part) (maxL := 7) (ret := (some .int)) (by decide) rfl ?_
  intro p e s m args below meth c s₁ B hml hv
  obtain ⟨rfl, hP, hK⟩ := hv
  have hx := B.exec
  have hb := B.bytes
  have hr := B.returns
  have hts := atoms_spec (ws := wM_part) B.pre
  have hk : ∀ w ∈ W0, w.before _ s = true := fun w h => hts w (List.mem_cons_of_mem _ h)
  have hown : s.vm.findClass "ImageGcdsModel" = some m.cls := findClass_of_methodNamed B.named
  have hlocks := B.notSynchronized
  have hD : va_D (fun q : Nat => q = h0) (mW h0 th le 0 fs) := mD
  have hS : va_S (fun q : Nat => q = h0) s.heap s.heap [] := va_S.rf
  have hl := lv_entry ([.ref h0, .int p0, .int p1]) (n := 7) (Nat.le_of_ble_eq_true rfl)
  rw [lg_entry_eq]
  generalize (lg_sl ([.ref h0, .int p0, .int p1]) ++ List.replicate (7 - (lg_sl ([.ref h0, .int p0, .int p1])).length) Slot.unset).toArray = ls at hl ⊢
  have hl : lv_has ls 7 [(0, .ref h0), (1, .int p0), (2, .int p1)] := hl
  refine lv_aload_n hx hb dM_part_0 rfl (lv_at hl 0 rfl) ?_
  refine lv_iload_n hx hb dM_part_1 rfl (lv_at hl 1 rfl) ?_
  refine vp_callSi (W.runV (As := [.int p0]) (rest := []) ⟨hx, hb, hml, hown, hk⟩ (cM_isPoly l dC dI h0 th le fs p0) (cwV 1 hk (gV k68 k69 k70 k71 k72) rfl rfl rfl (by decide +kernel) ⟨Nat.le_of_ble_eq_true rfl, Nat.le_of_ble_eq_true rfl⟩) ⟨mB, va_recv hK hP (ci := 2) (q0 := 0) rfl rfl, mP hP hK⟩ rfl rfl hl.1 rfl (lv_room (Nat.le_of_ble_eq_true rfl)) dM_part_2 ⟨Nat.le_of_ble_eq_true rfl, Nat.le_of_ble_eq_true rfl⟩) (fun r85 hw => ?_)
  subst hw
  refine lv_if_ne (tgt := 12) hx hb dM_part_5 (by decide) (fun c86 => ?_) (fun c86 => ?_)
  · skip
    exact absurd c86 (by decide)
  · skip
    refine lv_iconst (v := 1) hx hb dM_part_8 (by decide) ?_
    refine lv_goto (tgt := 13) hx hb dM_part_9 (by decide) ?_
    refine lv_istore_n (lv' := [(3, .int 1), (0, .ref h0), (1, .int p0), (2, .int p1)]) hx hb dM_part_13 rfl hl (by decide) rfl (fun ls hl => ?_)
    refine lv_iload_n hx hb dM_part_14 rfl (lv_at hl 0 rfl) ?_
    refine lv_if_ne (tgt := 41) hx hb dM_part_15 (by decide) (fun c87 => ?_) (fun c87 => ?_)
    · skip
      refine lv_iconst (v := 0) hx hb dM_part_41 (by decide) ?_
      refine lv_istore (lv' := [(4, .int 0), (3, .int 1), (0, .ref h0), (1, .int p0), (2, .int p1)]) hx hb dM_part_42 hl (by decide) rfl (fun ls hl => ?_)
      refine lv_aload_n hx hb dM_part_44 rfl (lv_at hl 2 rfl) ?_
      refine lv_iload_n hx hb dM_part_45 rfl (lv_at hl 1 rfl) ?_
      refine lv_aload_n hx hb dM_part_46 rfl (lv_at hl 2 rfl) ?_
      refine vp_callSi (W.runV (As := []) (rest := [.int 1, .ref h0]) ⟨hx, hb, hml, hown, hk⟩ (cM_isFull l dC dI h0 th le fs) (cwV 0 hk (gV k85 k86 k87 k71 k88) rfl rfl rfl (by decide +kernel) ⟨Nat.le_of_ble_eq_true rfl, Nat.le_of_ble_eq_true rfl⟩) ⟨mB, va_recv hK hP (ci := 2) (q0 := 0) rfl rfl, mP hP hK⟩ rfl rfl hl.1 rfl (lv_room (Nat.le_of_ble_eq_true rfl)) dM_part_47 ⟨Nat.le_of_ble_eq_true rfl, Nat.le_of_ble_eq_true rfl⟩) (fun r88 hw => ?_)
      subst hw
      refine lv_iload hx hb dM_part_50 (lv_at hl 0 rfl) ?_
      refine va_calli (va_runV (As := [.int 1, .int 0, .int 0]) (rest := []) ⟨hx, hb, hml, hown, hk⟩ (cM_fails1 l dC dI h0 th le fs 0 0) (cwV 3 hk (gV k77 k78 k79 k71 k80) rfl rfl rfl (by decide +kernel) ⟨Nat.le_of_ble_eq_true rfl, Nat.le_of_ble_eq_true rfl⟩) ⟨mB, va_recv hK hP (ci := 2) (q0 := 0) rfl rfl, mP hP hK⟩ rfl rfl hl.1 rfl (lv_room (Nat.le_of_ble_eq_true rfl)) dM_part_52 ⟨Nat.le_of_ble_eq_true rfl, Nat.le_of_ble_eq_true rfl⟩) hS (fun q _ h => h) (fun q h => h) (fun r89 _ t H1 locs ht hvm hw hB hz1 hk1 hS => ?_)
      subst hw
      obtain ⟨hP, hK1⟩ := hB
      rw [ht] at hP
      generalize H1 = H at hP hS ⊢
      have hD : va_D (fun q : Nat => q = h0) (mW h0 1 le 0 fs) := mD
      refine lv_if_eq (tgt := 60) hx hb dM_part_55 (by decide) (fun c90 => ?_) (fun c90 => ?_)
      · skip
        exact absurd c90 (by decide)
      · skip
        refine lv_iconst (v := 0) hx hb dM_part_58 (by decide) ?_
        exact W.iret (v := 0) hx hb hr (fun t ht hW => ⟨⟨0, (), rfl, rfl, by rw [ht]; exact hP, va_K.moved hW.alike hK⟩, hS.F ht⟩) hS.2.2 dM_part_59
    · skip
      exact absurd c87 (by decide)
set_option maxHeartbeats 4000000 in
set_option maxRecDepth 100000 in
theorem cM_image (l : Launch) (dC : Nat → ClassId) (dI : Nat → Nat → Nat) (h0 : Nat) (th le : Int32) (fs : List Value) (p0 : Int32) (p1 : Int32) (p2 : Int32) : Met l yM_image wM_image ({ frames := 2, cells := 0, slots := 0, locals := 60 }) (va_Pc [.ref h0, .int p0, .int p1, .int p2] (mU dC dI h0 th le fs)) (va_Qi (fun (r : Int32) (_ : Unit) => r = 0) (fun _ t => mU dC dI h0 1 le fs t) (fun q => q = h0)) 0 0 (fun q => q = h0) := by
  refine Met.ofW (cc := bM_image) (maxL := 10) (ret := (some .int)) (by decide) rfl ?_
  intro p e s m args below meth c s₁ B hml hv
  obtain ⟨rfl, hP, hK⟩ := hv
  have hx := B.exec
  have hb := B.bytes
  have hr := B.returns
  have hts := atoms_spec (ws := wM_image) B.pre
  have hk : ∀ w ∈ W0, w.before _ s = true := fun w h => hts w (List.mem_cons_of_mem _ h)
  have hown : s.vm.findClass "ImageGcdsModel" = some m.cls := findClass_of_methodNamed B.named
  have hlocks := B.notSynchronized
  have hD : va_D (fun q : Nat => q = h0) (mW h0 th le 0 fs) := mD
  have hS : va_S (fun q : Nat => q = h0) s.heap s.heap [] := va_S.rf
  have hl := lv_entry ([.ref h0, .int p0, .int p1, .int p2]) (n := 10) (Nat.le_of_ble_eq_true rfl)
  rw [lg_entry_eq]
  generalize (lg_sl ([.ref h0, .int p0, .int p1, .int p2]) ++ List.replicate (10 - (lg_sl ([.ref h0, .int p0, .int p1, .int p2])).length) Slot.unset).toArray = ls at hl ⊢
  have hl : lv_has ls 10 [(0, .ref h0), (1, .int p0), (2, .int p1), (3, .int p2)] := hl
  refine lv_aload_n hx hb dM_image_0 rfl (lv_at hl 0 rfl) ?_
  refine lv_aload_n hx hb dM_image_1 rfl (lv_at hl 0 rfl) ?_
  refine lv_iload_n hx hb dM_image_2 rfl (lv_at hl 1 rfl) ?_
  refine vp_callSi (W.runV (As := [.int p0]) (rest := [.ref h0]) ⟨hx, hb, hml, hown, hk⟩ (cM_isPoly l dC dI h0 th le fs p0) (cwV 1 hk (gV k68 k69 k70 k71 k72) rfl rfl rfl (by decide +kernel) ⟨Nat.le_of_ble_eq_true rfl, Nat.le_of_ble_eq_true rfl⟩) ⟨mB, va_recv hK hP (ci := 2) (q0 := 0) rfl rfl, mP hP hK⟩ rfl rfl hl.1 rfl (lv_room (Nat.le_of_ble_eq_true rfl)) dM_image_3 ⟨Nat.le_of_ble_eq_true rfl, Nat.le_of_ble_eq_true rfl⟩) (fun r91 hw => ?_)
  subst hw
  refine lv_if_ne (tgt := 13) hx hb dM_image_6 (by decide) (fun c92 => ?_) (fun c92 => ?_)
  · skip
    exact absurd c92 (by decide)
  · skip
    refine lv_iconst (v := 1) hx hb dM_image_9 (by decide) ?_
    refine lv_goto (tgt := 14) hx hb dM_image_10 (by decide) ?_
    refine lv_aload_n hx hb dM_image_14 rfl (lv_at hl 0 rfl) ?_
    refine vp_callSi (W.runV (As := []) (rest := [.int 1, .ref h0]) ⟨hx, hb, hml, hown, hk⟩ (cM_isFull l dC dI h0 th le fs) (cwV 0 hk (gV k85 k86 k87 k71 k88) rfl rfl rfl (by decide +kernel) ⟨Nat.le_of_ble_eq_true rfl, Nat.le_of_ble_eq_true rfl⟩) ⟨mB, va_recv hK hP (ci := 2) (q0 := 0) rfl rfl, mP hP hK⟩ rfl rfl hl.1 rfl (lv_room (Nat.le_of_ble_eq_true rfl)) dM_image_15 ⟨Nat.le_of_ble_eq_true rfl, Nat.le_of_ble_eq_true rfl⟩) (fun r93 hw => ?_)
    subst hw
    refine lv_aload_n hx hb dM_image_18 rfl (lv_at hl 0 rfl) ?_
    refine lv_iload_n hx hb dM_image_19 rfl (lv_at hl 2 rfl) ?_
    refine vp_callSi (W.runV (As := [.int p1]) (rest := [.int 0, .int 1, .ref h0]) ⟨hx, hb, hml, hown, hk⟩ (cM_isLetter l dC dI h0 th le fs p1) (cwV 1 hk (gV k89 k90 k91 k71 k92) rfl rfl rfl (by decide +kernel) ⟨Nat.le_of_ble_eq_true rfl, Nat.le_of_ble_eq_true rfl⟩) ⟨mB, va_recv hK hP (ci := 2) (q0 := 0) rfl rfl, mP hP hK⟩ rfl rfl hl.1 rfl (lv_room (Nat.le_of_ble_eq_true rfl)) dM_image_20 ⟨Nat.le_of_ble_eq_true rfl, Nat.le_of_ble_eq_true rfl⟩) (fun r94 hw => ?_)
    refine lv_if_ne (tgt := 30) hx hb dM_image_23 (by decide) (fun c95 => ?_) (fun c95 => ?_)
    · skip
      refine lv_iconst (v := 0) hx hb dM_image_30 (by decide) ?_
      refine va_calli (va_runV (As := [.int 1, .int 0, .int 0]) (rest := []) ⟨hx, hb, hml, hown, hk⟩ (cM_fails1 l dC dI h0 th le fs 0 0) (cwV 3 hk (gV k77 k78 k79 k71 k80) rfl rfl rfl (by decide +kernel) ⟨Nat.le_of_ble_eq_true rfl, Nat.le_of_ble_eq_true rfl⟩) ⟨mB, va_recv hK hP (ci := 2) (q0 := 0) rfl rfl, mP hP hK⟩ rfl rfl hl.1 rfl (lv_room (Nat.le_of_ble_eq_true rfl)) dM_image_31 ⟨Nat.le_of_ble_eq_true rfl, Nat.le_of_ble_eq_true rfl⟩) hS (fun q _ h => h) (fun q h => h) (fun r96 _ t H1 locs ht hvm hw hB hz1 hk1 hS => ?_)
      subst hw
      obtain ⟨hP, hK1⟩ := hB
      rw [ht] at hP
      generalize H1 = H at hP hS ⊢
      have hD : va_D (fun q : Nat => q = h0) (mW h0 1 le 0 fs) := mD
      refine lv_if_eq (tgt := 39) hx hb dM_image_34 (by decide) (fun c97 => ?_) (fun c97 => ?_)
      · skip
        exact absurd c97 (by decide)
      · skip
        refine lv_iconst (v := 0) hx hb dM_image_37 (by decide) ?_
        exact W.iret (v := 0) hx hb hr (fun t ht hW => ⟨⟨0, (), rfl, rfl, by rw [ht]; exact hP, va_K.moved hW.alike hK⟩, hS.F ht⟩) hS.2.2 dM_image_38
    · skip
      refine lv_iconst (v := 1) hx hb dM_image_26 (by decide) ?_
      refine lv_goto (tgt := 31) hx hb dM_image_27 (by decide) ?_
      refine va_calli (va_runV (As := [.int 1, .int 0, .int 1]) (rest := []) ⟨hx, hb, hml, hown, hk⟩ (cM_fails1 l dC dI h0 th le fs 0 1) (cwV 3 hk (gV k77 k78 k79 k71 k80) rfl rfl rfl (by decide +kernel) ⟨Nat.le_of_ble_eq_true rfl, Nat.le_of_ble_eq_true rfl⟩) ⟨mB, va_recv hK hP (ci := 2) (q0 := 0) rfl rfl, mP hP hK⟩ rfl rfl hl.1 rfl (lv_room (Nat.le_of_ble_eq_true rfl)) dM_image_31 ⟨Nat.le_of_ble_eq_true rfl, Nat.le_of_ble_eq_true rfl⟩) hS (fun q _ h => h) (fun q h => h) (fun r98 _ t H1 locs ht hvm hw hB hz1 hk1 hS => ?_)
      subst hw
      obtain ⟨hP, hK1⟩ := hB
      rw [ht] at hP
      generalize H1 = H at hP hS ⊢
      have hD : va_D (fun q : Nat => q = h0) (mW h0 1 le 0 fs) := mD
      refine lv_if_eq (tgt := 39) hx hb dM_image_34 (by decide) (fun c99 => ?_) (fun c99 => ?_)
      · skip
        exact absurd c99 (by decide)
      · skip
        refine lv_iconst (v := 0) hx hb dM_image_37 (by decide) ?_
        exact W.iret (v := 0) hx hb hr (fun t ht hW => ⟨⟨0, (), rfl, rfl, by rw [ht]; exact hP, va_K.moved hW.alike hK⟩, hS.F ht⟩) hS.2.2 dM_image_38
set_option maxHeartbeats 4000000 in
set_option maxRecDepth 100000 in
theorem cM_equal (l : Launch) (dC : Nat → ClassId) (dI : Nat → Nat → Nat) (h0 : Nat) (th le : Int32) (fs : List Value) (p0 : Int32) (p1 : Int32) : Met l yM_equal wM_equal ({ frames := 2, cells := 0, slots := 0, locals := 60 }) (va_Pc [.ref h0, .int p0, .int p1] (mU dC dI h0 th le fs)) (va_Qi (fun (r : Int32) (_ : Unit) => r = 0) (fun _ t => mU dC dI h0 1 le fs t) (fun q => q = h0)) 0 0 (fun q => q = h0) := by
  refine Met.ofW (cc := bM_equal) (maxL := 5) (ret := (some .boolean)) (by decide) rfl ?_
  intro p e s m args below meth c s₁ B hml hv
  obtain ⟨rfl, hP, hK⟩ := hv
  have hx := B.exec
  have hb := B.bytes
  have hr := B.returns
  have hts := atoms_spec (ws := wM_equal) B.pre
  have hk : ∀ w ∈ W0, w.before _ s = true := fun w h => hts w (List.mem_cons_of_mem _ h)
  have hown : s.vm.findClass "ImageGcdsModel" = some m.cls := findClass_of_methodNamed B.named
  have hlocks := B.notSynchronized
  have hD : va_D (fun q : Nat => q = h0) (mW h0 th le 0 fs) := mD
  have hS : va_S (fun q : Nat => q = h0) s.heap s.heap [] := va_S.rf
  have hl := lv_entry ([.ref h0, .int p0, .int p1]) (n := 5) (Nat.le_of_ble_eq_true rfl)
  rw [lg_entry_eq]
  generalize (lg_sl ([.ref h0, .int p0, .int p1]) ++ List.replicate (5 - (lg_sl ([.ref h0, .int p0, .int p1])).length) Slot.unset).toArray = ls at hl ⊢
  have hl : lv_has ls 5 [(0, .ref h0), (1, .int p0), (2, .int p1)] := hl
  refine lv_aload_n hx hb dM_equal_0 rfl (lv_at hl 0 rfl) ?_
  refine lv_aload_n hx hb dM_equal_1 rfl (lv_at hl 0 rfl) ?_
  refine lv_iload_n hx hb dM_equal_2 rfl (lv_at hl 1 rfl) ?_
  refine lv_iload_n hx hb dM_equal_3 rfl (lv_at hl 2 rfl) ?_
  refine vp_callSi (W.runV (As := [.int p0, .int p1]) (rest := [.ref h0]) ⟨hx, hb, hml, hown, hk⟩ (cM_areNot l dC dI h0 th le fs p0 p1) (cwV 2 hk (gV k81 k82 k83 k71 k84) rfl rfl rfl (by decide +kernel) ⟨Nat.le_of_ble_eq_true rfl, Nat.le_of_ble_eq_true rfl⟩) ⟨mB, va_recv hK hP (ci := 2) (q0 := 0) rfl rfl, mP hP hK⟩ rfl rfl hl.1 rfl (lv_room (Nat.le_of_ble_eq_true rfl)) dM_equal_4 ⟨Nat.le_of_ble_eq_true rfl, Nat.le_of_ble_eq_true rfl⟩) (fun r100 hw => ?_)
  subst hw
  refine lv_iconst (v := 0) hx hb dM_equal_7 (by decide) ?_
  refine lv_iconst (v := 0) hx hb dM_equal_8 (by decide) ?_
  refine va_calli (va_runV (As := [.int 1, .int 0, .int 0]) (rest := []) ⟨hx, hb, hml, hown, hk⟩ (cM_fails1 l dC dI h0 th le fs 0 0) (cwV 3 hk (gV k77 k78 k79 k71 k80) rfl rfl rfl (by decide +kernel) ⟨Nat.le_of_ble_eq_true rfl, Nat.le_of_ble_eq_true rfl⟩) ⟨mB, va_recv hK hP (ci := 2) (q0 := 0) rfl rfl, mP hP hK⟩ rfl rfl hl.1 rfl (lv_room (Nat.le_of_ble_eq_true rfl)) dM_equal_9 ⟨Nat.le_of_ble_eq_true rfl, Nat.le_of_ble_eq_true rfl⟩) hS (fun q _ h => h) (fun q h => h) (fun r101 _ t H1 locs ht hvm hw hB hz1 hk1 hS => ?_)
  subst hw
  obtain ⟨hP, hK1⟩ := hB
  rw [ht] at hP
  generalize H1 = H at hP hS ⊢
  have hD : va_D (fun q : Nat => q = h0) (mW h0 1 le 0 fs) := mD
  refine lv_if_eq (tgt := 17) hx hb dM_equal_12 (by decide) (fun c102 => ?_) (fun c102 => ?_)
  · skip
    exact absurd c102 (by decide)
  · skip
    refine lv_iconst (v := 0) hx hb dM_equal_15 (by decide) ?_
    exact W.zret (v := 0) hx hb hr rfl (fun t ht hW => ⟨⟨0, (), rfl, rfl, by rw [ht]; exact hP, va_K.moved hW.alike hK⟩, hS.F ht⟩) hS.2.2 dM_equal_16
set_option maxHeartbeats 4000000 in
set_option maxRecDepth 100000 in
theorem cM_terms (l : Launch) (dC : Nat → ClassId) (dI : Nat → Nat → Nat) (h0 : Nat) (th le : Int32) (fs : List Value) (p0 : Int32) : Met l yM_terms wM_terms ({ frames := 2, cells := 0, slots := 0, locals := 60 }) (va_Pc [.ref h0, .int p0] (mU dC dI h0 th le fs)) (va_Qi (fun (r : Int32) (_ : Unit) => r = 0) (fun _ t => mU dC dI h0 1 le fs t) (fun q => q = h0)) 0 0 (fun q => q = h0) := by
  refine Met.ofW (cc := bM_terms) (maxL := 2) (ret := (some .int)) (by decide) rfl ?_
  intro p e s m args below meth c s₁ B hml hv
  obtain ⟨rfl, hP, hK⟩ := hv
  have hx := B.exec
  have hb := B.bytes
  have hr := B.returns
  have hts := atoms_spec (ws := wM_terms) B.pre
  have hk : ∀ w ∈ W0, w.before _ s = true := fun w h => hts w (List.mem_cons_of_mem _ h)
  have hown : s.vm.findClass "ImageGcdsModel" = some m.cls := findClass_of_methodNamed B.named
  have hlocks := B.notSynchronized
  have hD : va_D (fun q : Nat => q = h0) (mW h0 th le 0 fs) := mD
  have hS : va_S (fun q : Nat => q = h0) s.heap s.heap [] := va_S.rf
  have hl := lv_entry ([.ref h0, .int p0]) (n := 2) (Nat.le_of_ble_eq_true rfl)
  rw [lg_entry_eq]
  generalize (lg_sl ([.ref h0, .int p0]) ++ List.replicate (2 - (lg_sl ([.ref h0, .int p0])).length) Slot.unset).toArray = ls at hl ⊢
  have hl : lv_has ls 2 [(0, .ref h0), (1, .int p0)] := hl
  refine lv_aload_n hx hb dM_terms_0 rfl (lv_at hl 0 rfl) ?_
  refine lv_aload_n hx hb dM_terms_1 rfl (lv_at hl 0 rfl) ?_
  refine lv_iload_n hx hb dM_terms_2 rfl (lv_at hl 1 rfl) ?_
  refine vp_callSi (W.runV (As := [.int p0]) (rest := [.ref h0]) ⟨hx, hb, hml, hown, hk⟩ (cM_isPoly l dC dI h0 th le fs p0) (cwV 1 hk (gV k68 k69 k70 k71 k72) rfl rfl rfl (by decide +kernel) ⟨Nat.le_of_ble_eq_true rfl, Nat.le_of_ble_eq_true rfl⟩) ⟨mB, va_recv hK hP (ci := 2) (q0 := 0) rfl rfl, mP hP hK⟩ rfl rfl hl.1 rfl (lv_room (Nat.le_of_ble_eq_true rfl)) dM_terms_3 ⟨Nat.le_of_ble_eq_true rfl, Nat.le_of_ble_eq_true rfl⟩) (fun r103 hw => ?_)
  subst hw
  refine lv_if_ne (tgt := 13) hx hb dM_terms_6 (by decide) (fun c104 => ?_) (fun c104 => ?_)
  · skip
    exact absurd c104 (by decide)
  · skip
    refine lv_iconst (v := 1) hx hb dM_terms_9 (by decide) ?_
    refine lv_goto (tgt := 14) hx hb dM_terms_10 (by decide) ?_
    refine lv_iconst (v := 0) hx hb dM_terms_14 (by decide) ?_
    refine lv_iconst (v := 0) hx hb dM_terms_15 (by decide) ?_
    refine va_calli (va_runV (As := [.int 1, .int 0, .int 0]) (rest := []) ⟨hx, hb, hml, hown, hk⟩ (cM_fails1 l dC dI h0 th le fs 0 0) (cwV 3 hk (gV k77 k78 k79 k71 k80) rfl rfl rfl (by decide +kernel) ⟨Nat.le_of_ble_eq_true rfl, Nat.le_of_ble_eq_true rfl⟩) ⟨mB, va_recv hK hP (ci := 2) (q0 := 0) rfl rfl, mP hP hK⟩ rfl rfl hl.1 rfl (lv_room (Nat.le_of_ble_eq_true rfl)) dM_terms_16 ⟨Nat.le_of_ble_eq_true rfl, Nat.le_of_ble_eq_true rfl⟩) hS (fun q _ h => h) (fun q h => h) (fun r105 _ t H1 locs ht hvm hw hB hz1 hk1 hS => ?_)
    subst hw
    obtain ⟨hP, hK1⟩ := hB
    rw [ht] at hP
    generalize H1 = H at hP hS ⊢
    have hD : va_D (fun q : Nat => q = h0) (mW h0 1 le 0 fs) := mD
    refine lv_if_eq (tgt := 24) hx hb dM_terms_19 (by decide) (fun c106 => ?_) (fun c106 => ?_)
    · skip
      exact absurd c106 (by decide)
    · skip
      refine lv_iconst (v := 0) hx hb dM_terms_22 (by decide) ?_
      exact W.iret (v := 0) hx hb hr (fun t ht hW => ⟨⟨0, (), rfl, rfl, by rw [ht]; exact hP, va_K.moved hW.alike hK⟩, hS.F ht⟩) hS.2.2 dM_terms_23
set_option maxHeartbeats 4000000 in
set_option maxRecDepth 100000 in
theorem cM_at (l : Launch) (dC : Nat → ClassId) (dI : Nat → Nat → Nat) (h0 : Nat) (th le : Int32) (fs : List Value) (p0 : Int32) (p1 : Int32) (p2 : Int32) : Met l yM_at wM_at ({ frames := 2, cells := 0, slots := 0, locals := 60 }) (va_Pc [.ref h0, .int p0, .int p1, .int p2] (mU dC dI h0 th le fs)) (va_Qi (fun (r : Int32) (_ : Unit) => r = 0) (fun _ t => mU dC dI h0 1 le fs t) (fun q => q = h0)) 0 0 (fun q => q = h0) := by
  refine Met.ofW (cc := bM_at) (maxL := 9) (ret := (some .int)) (by decide) rfl ?_
  intro p e s m args below meth c s₁ B hml hv
  obtain ⟨rfl, hP, hK⟩ := hv
  have hx := B.exec
  have hb := B.bytes
  have hr := B.returns
  have hts := atoms_spec (ws := wM_at) B.pre
  have hk : ∀ w ∈ W0, w.before _ s = true := fun w h => hts w (List.mem_cons_of_mem _ h)
  have hown : s.vm.findClass "ImageGcdsModel" = some m.cls := findClass_of_methodNamed B.named
  have hlocks := B.notSynchronized
  have hD : va_D (fun q : Nat => q = h0) (mW h0 th le 0 fs) := mD
  have hS : va_S (fun q : Nat => q = h0) s.heap s.heap [] := va_S.rf
  have hl := lv_entry ([.ref h0, .int p0, .int p1, .int p2]) (n := 9) (Nat.le_of_ble_eq_true rfl)
  rw [lg_entry_eq]
  generalize (lg_sl ([.ref h0, .int p0, .int p1, .int p2]) ++ List.replicate (9 - (lg_sl ([.ref h0, .int p0, .int p1, .int p2])).length) Slot.unset).toArray = ls at hl ⊢
  have hl : lv_has ls 9 [(0, .ref h0), (1, .int p0), (2, .int p1), (3, .int p2)] := hl
  refine lv_aload_n hx hb dM_at_0 rfl (lv_at hl 0 rfl) ?_
  refine lv_iload_n hx hb dM_at_1 rfl (lv_at hl 1 rfl) ?_
  refine vp_callSi (W.runV (As := [.int p0]) (rest := []) ⟨hx, hb, hml, hown, hk⟩ (cM_isPoly l dC dI h0 th le fs p0) (cwV 1 hk (gV k68 k69 k70 k71 k72) rfl rfl rfl (by decide +kernel) ⟨Nat.le_of_ble_eq_true rfl, Nat.le_of_ble_eq_true rfl⟩) ⟨mB, va_recv hK hP (ci := 2) (q0 := 0) rfl rfl, mP hP hK⟩ rfl rfl hl.1 rfl (lv_room (Nat.le_of_ble_eq_true rfl)) dM_at_2 ⟨Nat.le_of_ble_eq_true rfl, Nat.le_of_ble_eq_true rfl⟩) (fun r107 hw => ?_)
  subst hw
  refine lv_if_ne (tgt := 12) hx hb dM_at_5 (by decide) (fun c108 => ?_) (fun c108 => ?_)
  · skip
    exact absurd c108 (by decide)
  · skip
    refine lv_iconst (v := 1) hx hb dM_at_8 (by decide) ?_
    refine lv_goto (tgt := 13) hx hb dM_at_9 (by decide) ?_
    refine lv_istore (lv' := [(4, .int 1), (0, .ref h0), (1, .int p0), (2, .int p1), (3, .int p2)]) hx hb dM_at_13 hl (by decide) rfl (fun ls hl => ?_)
    refine lv_aload_n hx hb dM_at_15 rfl (lv_at hl 1 rfl) ?_
    refine lv_iload hx hb dM_at_16 (lv_at hl 0 rfl) ?_
    refine lv_iload hx hb dM_at_18 (lv_at hl 0 rfl) ?_
    refine lv_if_ne (tgt := 49) hx hb dM_at_20 (by decide) (fun c109 => ?_) (fun c109 => ?_)
    · skip
      refine lv_iconst (v := 0) hx hb dM_at_49 (by decide) ?_
      refine lv_iconst (v := 0) hx hb dM_at_50 (by decide) ?_
      refine va_calli (va_runV (As := [.int 1, .int 0, .int 0]) (rest := []) ⟨hx, hb, hml, hown, hk⟩ (cM_fails1 l dC dI h0 th le fs 0 0) (cwV 3 hk (gV k77 k78 k79 k71 k80) rfl rfl rfl (by decide +kernel) ⟨Nat.le_of_ble_eq_true rfl, Nat.le_of_ble_eq_true rfl⟩) ⟨mB, va_recv hK hP (ci := 2) (q0 := 0) rfl rfl, mP hP hK⟩ rfl rfl hl.1 rfl (lv_room (Nat.le_of_ble_eq_true rfl)) dM_at_51 ⟨Nat.le_of_ble_eq_true rfl, Nat.le_of_ble_eq_true rfl⟩) hS (fun q _ h => h) (fun q h => h) (fun r110 _ t H1 locs ht hvm hw hB hz1 hk1 hS => ?_)
      subst hw
      obtain ⟨hP, hK1⟩ := hB
      rw [ht] at hP
      generalize H1 = H at hP hS ⊢
      have hD : va_D (fun q : Nat => q = h0) (mW h0 1 le 0 fs) := mD
      refine lv_if_eq (tgt := 59) hx hb dM_at_54 (by decide) (fun c111 => ?_) (fun c111 => ?_)
      · skip
        exact absurd c111 (by decide)
      · skip
        refine lv_iconst (v := 0) hx hb dM_at_57 (by decide) ?_
        exact W.iret (v := 0) hx hb hr (fun t ht hW => ⟨⟨0, (), rfl, rfl, by rw [ht]; exact hP, va_K.moved hW.alike hK⟩, hS.F ht⟩) hS.2.2 dM_at_58
    · skip
      exact absurd c109 (by decide)
set_option maxHeartbeats 4000000 in
set_option maxRecDepth 100000 in
theorem cM_degree (l : Launch) (dC : Nat → ClassId) (dI : Nat → Nat → Nat) (h0 : Nat) (th le : Int32) (fs : List Value) (p0 : Int32) (p1 : Int32) : Met l yM_degree wM_degree ({ frames := 2, cells := 0, slots := 0, locals := 60 }) (va_Pc [.ref h0, .int p0, .int p1] (mU dC dI h0 th le fs)) (va_Qi (fun (r : Int32) (_ : Unit) => r = 0) (fun _ t => mU dC dI h0 1 le fs t) (fun q => q = h0)) 0 0 (fun q => q = h0) := by
  refine Met.ofW (cc := bM_degree) (maxL := 4) (ret := (some .int)) (by decide) rfl ?_
  intro p e s m args below meth c s₁ B hml hv
  obtain ⟨rfl, hP, hK⟩ := hv
  have hx := B.exec
  have hb := B.bytes
  have hr := B.returns
  have hts := atoms_spec (ws := wM_degree) B.pre
  have hk : ∀ w ∈ W0, w.before _ s = true := fun w h => hts w (List.mem_cons_of_mem _ h)
  have hown : s.vm.findClass "ImageGcdsModel" = some m.cls := findClass_of_methodNamed B.named
  have hlocks := B.notSynchronized
  have hD : va_D (fun q : Nat => q = h0) (mW h0 th le 0 fs) := mD
  have hS : va_S (fun q : Nat => q = h0) s.heap s.heap [] := va_S.rf
  have hl := lv_entry ([.ref h0, .int p0, .int p1]) (n := 4) (Nat.le_of_ble_eq_true rfl)
  rw [lg_entry_eq]
  generalize (lg_sl ([.ref h0, .int p0, .int p1]) ++ List.replicate (4 - (lg_sl ([.ref h0, .int p0, .int p1])).length) Slot.unset).toArray = ls at hl ⊢
  have hl : lv_has ls 4 [(0, .ref h0), (1, .int p0), (2, .int p1)] := hl
  refine lv_aload_n hx hb dM_degree_0 rfl (lv_at hl 0 rfl) ?_
  refine lv_iload_n hx hb dM_degree_1 rfl (lv_at hl 1 rfl) ?_
  refine vp_callSi (W.runV (As := [.int p0]) (rest := []) ⟨hx, hb, hml, hown, hk⟩ (cM_isPoly l dC dI h0 th le fs p0) (cwV 1 hk (gV k68 k69 k70 k71 k72) rfl rfl rfl (by decide +kernel) ⟨Nat.le_of_ble_eq_true rfl, Nat.le_of_ble_eq_true rfl⟩) ⟨mB, va_recv hK hP (ci := 2) (q0 := 0) rfl rfl, mP hP hK⟩ rfl rfl hl.1 rfl (lv_room (Nat.le_of_ble_eq_true rfl)) dM_degree_2 ⟨Nat.le_of_ble_eq_true rfl, Nat.le_of_ble_eq_true rfl⟩) (fun r112 hw => ?_)
  subst hw
  refine lv_if_ne (tgt := 12) hx hb dM_degree_5 (by decide) (fun c113 => ?_) (fun c113 => ?_)
  · skip
    exact absurd c113 (by decide)
  · skip
    refine lv_iconst (v := 1) hx hb dM_degree_8 (by decide) ?_
    refine lv_goto (tgt := 13) hx hb dM_degree_9 (by decide) ?_
    refine lv_istore_n (lv' := [(3, .int 1), (0, .ref h0), (1, .int p0), (2, .int p1)]) hx hb dM_degree_13 rfl hl (by decide) rfl (fun ls hl => ?_)
    refine lv_aload_n hx hb dM_degree_14 rfl (lv_at hl 1 rfl) ?_
    refine lv_iload_n hx hb dM_degree_15 rfl (lv_at hl 0 rfl) ?_
    refine lv_aload_n hx hb dM_degree_16 rfl (lv_at hl 1 rfl) ?_
    refine lv_iload_n hx hb dM_degree_17 rfl (lv_at hl 3 rfl) ?_
    refine vp_callSi (W.runV (As := [.int p1]) (rest := [.int 1, .ref h0]) ⟨hx, hb, hml, hown, hk⟩ (cM_isLetter l dC dI h0 th le fs p1) (cwV 1 hk (gV k89 k90 k91 k71 k92) rfl rfl rfl (by decide +kernel) ⟨Nat.le_of_ble_eq_true rfl, Nat.le_of_ble_eq_true rfl⟩) ⟨mB, va_recv hK hP (ci := 2) (q0 := 0) rfl rfl, mP hP hK⟩ rfl rfl hl.1 rfl (lv_room (Nat.le_of_ble_eq_true rfl)) dM_degree_18 ⟨Nat.le_of_ble_eq_true rfl, Nat.le_of_ble_eq_true rfl⟩) (fun r114 hw => ?_)
    refine lv_if_ne (tgt := 28) hx hb dM_degree_21 (by decide) (fun c115 => ?_) (fun c115 => ?_)
    · skip
      refine lv_iconst (v := 0) hx hb dM_degree_28 (by decide) ?_
      refine lv_iconst (v := 0) hx hb dM_degree_29 (by decide) ?_
      refine va_calli (va_runV (As := [.int 1, .int 0, .int 0]) (rest := []) ⟨hx, hb, hml, hown, hk⟩ (cM_fails1 l dC dI h0 th le fs 0 0) (cwV 3 hk (gV k77 k78 k79 k71 k80) rfl rfl rfl (by decide +kernel) ⟨Nat.le_of_ble_eq_true rfl, Nat.le_of_ble_eq_true rfl⟩) ⟨mB, va_recv hK hP (ci := 2) (q0 := 0) rfl rfl, mP hP hK⟩ rfl rfl hl.1 rfl (lv_room (Nat.le_of_ble_eq_true rfl)) dM_degree_30 ⟨Nat.le_of_ble_eq_true rfl, Nat.le_of_ble_eq_true rfl⟩) hS (fun q _ h => h) (fun q h => h) (fun r116 _ t H1 locs ht hvm hw hB hz1 hk1 hS => ?_)
      subst hw
      obtain ⟨hP, hK1⟩ := hB
      rw [ht] at hP
      generalize H1 = H at hP hS ⊢
      have hD : va_D (fun q : Nat => q = h0) (mW h0 1 le 0 fs) := mD
      refine lv_if_eq (tgt := 38) hx hb dM_degree_33 (by decide) (fun c117 => ?_) (fun c117 => ?_)
      · skip
        exact absurd c117 (by decide)
      · skip
        refine lv_iconst (v := 0) hx hb dM_degree_36 (by decide) ?_
        exact W.iret (v := 0) hx hb hr (fun t ht hW => ⟨⟨0, (), rfl, rfl, by rw [ht]; exact hP, va_K.moved hW.alike hK⟩, hS.F ht⟩) hS.2.2 dM_degree_37
    · skip
      refine lv_iconst (v := 1) hx hb dM_degree_24 (by decide) ?_
      refine lv_goto (tgt := 29) hx hb dM_degree_25 (by decide) ?_
      refine lv_iconst (v := 0) hx hb dM_degree_29 (by decide) ?_
      refine va_calli (va_runV (As := [.int 1, .int 1, .int 0]) (rest := []) ⟨hx, hb, hml, hown, hk⟩ (cM_fails1 l dC dI h0 th le fs 1 0) (cwV 3 hk (gV k77 k78 k79 k71 k80) rfl rfl rfl (by decide +kernel) ⟨Nat.le_of_ble_eq_true rfl, Nat.le_of_ble_eq_true rfl⟩) ⟨mB, va_recv hK hP (ci := 2) (q0 := 0) rfl rfl, mP hP hK⟩ rfl rfl hl.1 rfl (lv_room (Nat.le_of_ble_eq_true rfl)) dM_degree_30 ⟨Nat.le_of_ble_eq_true rfl, Nat.le_of_ble_eq_true rfl⟩) hS (fun q _ h => h) (fun q h => h) (fun r118 _ t H1 locs ht hvm hw hB hz1 hk1 hS => ?_)
      subst hw
      obtain ⟨hP, hK1⟩ := hB
      rw [ht] at hP
      generalize H1 = H at hP hS ⊢
      have hD : va_D (fun q : Nat => q = h0) (mW h0 1 le 0 fs) := mD
      refine lv_if_eq (tgt := 38) hx hb dM_degree_33 (by decide) (fun c119 => ?_) (fun c119 => ?_)
      · skip
        exact absurd c119 (by decide)
      · skip
        refine lv_iconst (v := 0) hx hb dM_degree_36 (by decide) ?_
        exact W.iret (v := 0) hx hb hr (fun t ht hW => ⟨⟨0, (), rfl, rfl, by rw [ht]; exact hP, va_K.moved hW.alike hK⟩, hS.F ht⟩) hS.2.2 dM_degree_37
end
section
set_option maxHeartbeats 4000000 in
set_option maxRecDepth 100000 in
theorem cL_term (l : Launch) (htr : l.stackTraces = false) (dC : Nat → ClassId) (dI : Nat → Nat → Nat) (h0 : Nat) (le : Int32) (qp sa : Nat) (sz : Nat) (p1 : Int32) (p2 : Int64) (p3 : Int64) (p4 : Int32) (p5 : Nat) : Met l yL_term wL_term ({ frames := 8, cells := 1, slots := 6, locals := 140 }) (va_Pc [.ref h0, .int p1, .long p2, .long p3, .int p4, .ref p5] (fun U => U.heap.size = sz ∧ gU dC dI h0 le qp sa U)) (va_Qi (fun (r : Int32) (_ : Unit) => r = 1) (fun _ _ => True) (fun q => sz ≤ q)) 1 6 (fun q => sz ≤ q) := by
  refine va_MetW (cc := bL_term) (maxL := 9) (ret := (some .int)) (by decide) rfl ?_
  intro p e s m args below meth c s₁ B hml hv
  obtain ⟨rfl, hsz, hU⟩ := hv
  have hx := B.exec
  have hb := B.bytes
  have hr := B.returns
  have hts := atoms_spec (ws := wL_term) B.pre
  have hk : ∀ w ∈ W0, w.before _ s = true := fun w h => hts w (List.mem_cons_of_mem _ h)
  have hown : s.vm.findClass "ImageGcdsLaw" = some m.cls := findClass_of_methodNamed B.named
  have hlocks := B.notSynchronized
  subst hsz
  have htab : c.exceptionTable.toList = tableOf [(0, 22, 25, 19), (0, 22, 29, 21), (0, 22, 33, 23)] := th_table B rfl
  have hl := lv_entry ([.ref h0, .int p1, .long p2, .long p3, .int p4, .ref p5]) (n := 9) (Nat.le_of_ble_eq_true rfl)
  rw [lg_entry_eq]
  generalize (lg_sl ([.ref h0, .int p1, .long p2, .long p3, .int p4, .ref p5]) ++ List.replicate (9 - (lg_sl ([.ref h0, .int p1, .long p2, .long p3, .int p4, .ref p5])).length) Slot.unset).toArray = ls at hl ⊢
  have hl : lv_has ls 9 [(0, .ref h0), (1, .int p1), (2, .long p2), (4, .long p3), (6, .int p4), (7, .ref p5)] := hl
  refine lv_aload hx hb dL_term_0 (lv_at hl 5 rfl) ?_
  refine lv_iconst (v := 0) hx hb dL_term_2 (by decide) ?_
  refine lv_aload_n hx hb dL_term_3 rfl (lv_at hl 0 rfl) ?_
  refine lv_iload_n hx hb dL_term_4 rfl (lv_at hl 1 rfl) ?_
  refine lv_lload_n hx hb dL_term_5 rfl (lv_at hl 2 rfl) ?_
  refine lv_lload hx hb dL_term_6 (lv_at hl 3 rfl) ?_
  refine lv_iload hx hb dL_term_8 (lv_at hl 4 rfl) ?_
  refine th_catch (own := "ImageGcdsLaw") (x := ⟨0, 22, 25, 19⟩) htab rfl (by decide) rfl hown (hk _ k8) (th_runV (C := "ImageGcds") (As := [.int p1, .long p2, .long p3, .int p4]) (rest := [.int 0, .ref p5]) ⟨hx, hb, hml, hown, hk⟩ (cG_term l htr dC dI h0 le qp sa p1 p2 p3 p4) (cwV 4 hk (gV k9 k10 k11 k6 k12) rfl rfl rfl (by decide +kernel) ⟨Nat.le_of_ble_eq_true rfl, Nat.le_of_ble_eq_true rfl⟩) ⟨gU.bl, va_recv hU.2.1 hU.1 (ci := 0) (q0 := 0) rfl rfl, fun U hU2 hW => ⟨rfl, hU.go hW (fun q _ => by rw [hU2])⟩⟩ rfl rfl hl.1 rfl (lv_room (Nat.le_of_ble_eq_true rfl)) dL_term_10 ⟨Nat.le_of_ble_eq_true rfl, Nat.le_of_ble_eq_true rfl⟩) (fun a H1 hz ho => ?_)
  refine W.eq (g2 := F0 m 25 ls [.ref a]) rfl ?_
  have hS : va_S (fun q : Nat => s.heap.size ≤ q) s.heap H1 [] := ⟨hz, fun q h1 _ => ho q h1, fun _ h => nomatch h⟩
  refine lv_astore (lv' := [(8, .ref a), (0, .ref h0), (1, .int p1), (2, .long p2), (4, .long p3), (6, .int p4), (7, .ref p5)]) hx hb dL_term_25 hl (by decide) rfl (fun ls hl => ?_)
  refine lv_iconst (v := 1) hx hb dL_term_27 (by decide) ?_
  exact W.iret (v := 1) hx hb hr (fun t ht hW => ⟨⟨1, (), rfl, rfl, trivial⟩, hS.F ht⟩) hS.2.2 dL_term_28
set_option maxHeartbeats 4000000 in
set_option maxRecDepth 100000 in
theorem cL_add (l : Launch) (htr : l.stackTraces = false) (dC : Nat → ClassId) (dI : Nat → Nat → Nat) (h0 : Nat) (le : Int32) (qp sa : Nat) (sz : Nat) (p1 : Int32) (p2 : Int32) (p3 : Nat) : Met l yL_add wL_add ({ frames := 8, cells := 1, slots := 6, locals := 140 }) (va_Pc [.ref h0, .int p1, .int p2, .ref p3] (fun U => U.heap.size = sz ∧ gU dC dI h0 le qp sa U)) (va_Qi (fun (r : Int32) (_ : Unit) => r = 1) (fun _ _ => True) (fun q => sz ≤ q)) 1 6 (fun q => sz ≤ q) := by
  refine va_MetW (cc := bL_add) (maxL := 5) (ret := (some .int)) (by decide) rfl ?_
  intro p e s m args below meth c s₁ B hml hv
  obtain ⟨rfl, hsz, hU⟩ := hv
  have hx := B.exec
  have hb := B.bytes
  have hr := B.returns
  have hts := atoms_spec (ws := wL_add) B.pre
  have hk : ∀ w ∈ W0, w.before _ s = true := fun w h => hts w (List.mem_cons_of_mem _ h)
  have hown : s.vm.findClass "ImageGcdsLaw" = some m.cls := findClass_of_methodNamed B.named
  have hlocks := B.notSynchronized
  subst hsz
  have htab : c.exceptionTable.toList = tableOf [(0, 10, 13, 19), (0, 10, 17, 13)] := th_table B rfl
  have hl := lv_entry ([.ref h0, .int p1, .int p2, .ref p3]) (n := 5) (Nat.le_of_ble_eq_true rfl)
  rw [lg_entry_eq]
  generalize (lg_sl ([.ref h0, .int p1, .int p2, .ref p3]) ++ List.replicate (5 - (lg_sl ([.ref h0, .int p1, .int p2, .ref p3])).length) Slot.unset).toArray = ls at hl ⊢
  have hl : lv_has ls 5 [(0, .ref h0), (1, .int p1), (2, .int p2), (3, .ref p3)] := hl
  refine lv_aload_n hx hb dL_add_0 rfl (lv_at hl 3 rfl) ?_
  refine lv_iconst (v := 0) hx hb dL_add_1 (by decide) ?_
  refine lv_aload_n hx hb dL_add_2 rfl (lv_at hl 0 rfl) ?_
  refine lv_iload_n hx hb dL_add_3 rfl (lv_at hl 1 rfl) ?_
  refine lv_iload_n hx hb dL_add_4 rfl (lv_at hl 2 rfl) ?_
  refine th_catch (own := "ImageGcdsLaw") (x := ⟨0, 10, 13, 19⟩) htab rfl (by decide) rfl hown (hk _ k8) (th_runV (C := "ImageGcds") (As := [.int p1, .int p2]) (rest := [.int 0, .ref p3]) ⟨hx, hb, hml, hown, hk⟩ (cG_add l htr dC dI h0 le qp sa p1 p2) (cwV 2 hk (gV k13 k14 k15 k6 k16) rfl rfl rfl (by decide +kernel) ⟨Nat.le_of_ble_eq_true rfl, Nat.le_of_ble_eq_true rfl⟩) ⟨gU.bl, va_recv hU.2.1 hU.1 (ci := 0) (q0 := 0) rfl rfl, fun U hU2 hW => ⟨rfl, hU.go hW (fun q _ => by rw [hU2])⟩⟩ rfl rfl hl.1 rfl (lv_room (Nat.le_of_ble_eq_true rfl)) dL_add_5 ⟨Nat.le_of_ble_eq_true rfl, Nat.le_of_ble_eq_true rfl⟩) (fun a H1 hz ho => ?_)
  refine W.eq (g2 := F0 m 13 ls [.ref a]) rfl ?_
  have hS : va_S (fun q : Nat => s.heap.size ≤ q) s.heap H1 [] := ⟨hz, fun q h1 _ => ho q h1, fun _ h => nomatch h⟩
  refine lv_astore (lv' := [(4, .ref a), (0, .ref h0), (1, .int p1), (2, .int p2), (3, .ref p3)]) hx hb dL_add_13 hl (by decide) rfl (fun ls hl => ?_)
  refine lv_iconst (v := 1) hx hb dL_add_15 (by decide) ?_
  exact W.iret (v := 1) hx hb hr (fun t ht hW => ⟨⟨1, (), rfl, rfl, trivial⟩, hS.F ht⟩) hS.2.2 dL_add_16
set_option maxHeartbeats 4000000 in
set_option maxRecDepth 100000 in
theorem cL_times (l : Launch) (htr : l.stackTraces = false) (dC : Nat → ClassId) (dI : Nat → Nat → Nat) (h0 : Nat) (le : Int32) (qp sa : Nat) (sz : Nat) (p1 : Int32) (p2 : Int32) (p3 : Nat) : Met l yL_times wL_times ({ frames := 8, cells := 1, slots := 6, locals := 140 }) (va_Pc [.ref h0, .int p1, .int p2, .ref p3] (fun U => U.heap.size = sz ∧ gU dC dI h0 le qp sa U)) (va_Qi (fun (r : Int32) (_ : Unit) => r = 1) (fun _ _ => True) (fun q => sz ≤ q)) 1 6 (fun q => sz ≤ q) := by
  refine va_MetW (cc := bL_times) (maxL := 5) (ret := (some .int)) (by decide) rfl ?_
  intro p e s m args below meth c s₁ B hml hv
  obtain ⟨rfl, hsz, hU⟩ := hv
  have hx := B.exec
  have hb := B.bytes
  have hr := B.returns
  have hts := atoms_spec (ws := wL_times) B.pre
  have hk : ∀ w ∈ W0, w.before _ s = true := fun w h => hts w (List.mem_cons_of_mem _ h)
  have hown : s.vm.findClass "ImageGcdsLaw" = some m.cls := findClass_of_methodNamed B.named
  have hlocks := B.notSynchronized
  subst hsz
  have htab : c.exceptionTable.toList = tableOf [(0, 10, 13, 19), (0, 10, 17, 13), (0, 10, 21, 21)] := th_table B rfl
  have hl := lv_entry ([.ref h0, .int p1, .int p2, .ref p3]) (n := 5) (Nat.le_of_ble_eq_true rfl)
  rw [lg_entry_eq]
  generalize (lg_sl ([.ref h0, .int p1, .int p2, .ref p3]) ++ List.replicate (5 - (lg_sl ([.ref h0, .int p1, .int p2, .ref p3])).length) Slot.unset).toArray = ls at hl ⊢
  have hl : lv_has ls 5 [(0, .ref h0), (1, .int p1), (2, .int p2), (3, .ref p3)] := hl
  refine lv_aload_n hx hb dL_times_0 rfl (lv_at hl 3 rfl) ?_
  refine lv_iconst (v := 0) hx hb dL_times_1 (by decide) ?_
  refine lv_aload_n hx hb dL_times_2 rfl (lv_at hl 0 rfl) ?_
  refine lv_iload_n hx hb dL_times_3 rfl (lv_at hl 1 rfl) ?_
  refine lv_iload_n hx hb dL_times_4 rfl (lv_at hl 2 rfl) ?_
  refine th_catch (own := "ImageGcdsLaw") (x := ⟨0, 10, 13, 19⟩) htab rfl (by decide) rfl hown (hk _ k8) (th_runV (C := "ImageGcds") (As := [.int p1, .int p2]) (rest := [.int 0, .ref p3]) ⟨hx, hb, hml, hown, hk⟩ (cG_times l htr dC dI h0 le qp sa p1 p2) (cwV 2 hk (gV k17 k18 k19 k6 k20) rfl rfl rfl (by decide +kernel) ⟨Nat.le_of_ble_eq_true rfl, Nat.le_of_ble_eq_true rfl⟩) ⟨gU.bl, va_recv hU.2.1 hU.1 (ci := 0) (q0 := 0) rfl rfl, fun U hU2 hW => ⟨rfl, hU.go hW (fun q _ => by rw [hU2])⟩⟩ rfl rfl hl.1 rfl (lv_room (Nat.le_of_ble_eq_true rfl)) dL_times_5 ⟨Nat.le_of_ble_eq_true rfl, Nat.le_of_ble_eq_true rfl⟩) (fun a H1 hz ho => ?_)
  refine W.eq (g2 := F0 m 13 ls [.ref a]) rfl ?_
  have hS : va_S (fun q : Nat => s.heap.size ≤ q) s.heap H1 [] := ⟨hz, fun q h1 _ => ho q h1, fun _ h => nomatch h⟩
  refine lv_astore (lv' := [(4, .ref a), (0, .ref h0), (1, .int p1), (2, .int p2), (3, .ref p3)]) hx hb dL_times_13 hl (by decide) rfl (fun ls hl => ?_)
  refine lv_iconst (v := 1) hx hb dL_times_15 (by decide) ?_
  exact W.iret (v := 1) hx hb hr (fun t ht hW => ⟨⟨1, (), rfl, rfl, trivial⟩, hS.F ht⟩) hS.2.2 dL_times_16
set_option maxHeartbeats 4000000 in
set_option maxRecDepth 100000 in
theorem cL_over (l : Launch) (htr : l.stackTraces = false) (dC : Nat → ClassId) (dI : Nat → Nat → Nat) (h0 : Nat) (le : Int32) (qp sa : Nat) (sz : Nat) (p1 : Int32) (p2 : Int32) (p3 : Nat) : Met l yL_over wL_over ({ frames := 8, cells := 1, slots := 6, locals := 140 }) (va_Pc [.ref h0, .int p1, .int p2, .ref p3] (fun U => U.heap.size = sz ∧ gU dC dI h0 le qp sa U)) (va_Qi (fun (r : Int32) (_ : Unit) => r = 1) (fun _ _ => True) (fun q => sz ≤ q)) 1 6 (fun q => sz ≤ q) := by
  refine va_MetW (cc := bL_over) (maxL := 5) (ret := (some .int)) (by decide) rfl ?_
  intro p e s m args below meth c s₁ B hml hv
  obtain ⟨rfl, hsz, hU⟩ := hv
  have hx := B.exec
  have hb := B.bytes
  have hr := B.returns
  have hts := atoms_spec (ws := wL_over) B.pre
  have hk : ∀ w ∈ W0, w.before _ s = true := fun w h => hts w (List.mem_cons_of_mem _ h)
  have hown : s.vm.findClass "ImageGcdsLaw" = some m.cls := findClass_of_methodNamed B.named
  have hlocks := B.notSynchronized
  subst hsz
  have htab : c.exceptionTable.toList = tableOf [(0, 10, 13, 19), (0, 10, 17, 13)] := th_table B rfl
  have hl := lv_entry ([.ref h0, .int p1, .int p2, .ref p3]) (n := 5) (Nat.le_of_ble_eq_true rfl)
  rw [lg_entry_eq]
  generalize (lg_sl ([.ref h0, .int p1, .int p2, .ref p3]) ++ List.replicate (5 - (lg_sl ([.ref h0, .int p1, .int p2, .ref p3])).length) Slot.unset).toArray = ls at hl ⊢
  have hl : lv_has ls 5 [(0, .ref h0), (1, .int p1), (2, .int p2), (3, .ref p3)] := hl
  refine lv_aload_n hx hb dL_over_0 rfl (lv_at hl 3 rfl) ?_
  refine lv_iconst (v := 0) hx hb dL_over_1 (by decide) ?_
  refine lv_aload_n hx hb dL_over_2 rfl (lv_at hl 0 rfl) ?_
  refine lv_iload_n hx hb dL_over_3 rfl (lv_at hl 1 rfl) ?_
  refine lv_iload_n hx hb dL_over_4 rfl (lv_at hl 2 rfl) ?_
  refine th_catch (own := "ImageGcdsLaw") (x := ⟨0, 10, 13, 19⟩) htab rfl (by decide) rfl hown (hk _ k8) (th_runV (C := "ImageGcds") (As := [.int p1, .int p2]) (rest := [.int 0, .ref p3]) ⟨hx, hb, hml, hown, hk⟩ (cG_over l htr dC dI h0 le qp sa p1 p2) (cwV 2 hk (gV k21 k22 k23 k6 k24) rfl rfl rfl (by decide +kernel) ⟨Nat.le_of_ble_eq_true rfl, Nat.le_of_ble_eq_true rfl⟩) ⟨gU.bl, va_recv hU.2.1 hU.1 (ci := 0) (q0 := 0) rfl rfl, fun U hU2 hW => ⟨rfl, hU.go hW (fun q _ => by rw [hU2])⟩⟩ rfl rfl hl.1 rfl (lv_room (Nat.le_of_ble_eq_true rfl)) dL_over_5 ⟨Nat.le_of_ble_eq_true rfl, Nat.le_of_ble_eq_true rfl⟩) (fun a H1 hz ho => ?_)
  refine W.eq (g2 := F0 m 13 ls [.ref a]) rfl ?_
  have hS : va_S (fun q : Nat => s.heap.size ≤ q) s.heap H1 [] := ⟨hz, fun q h1 _ => ho q h1, fun _ h => nomatch h⟩
  refine lv_astore (lv' := [(4, .ref a), (0, .ref h0), (1, .int p1), (2, .int p2), (3, .ref p3)]) hx hb dL_over_13 hl (by decide) rfl (fun ls hl => ?_)
  refine lv_iconst (v := 1) hx hb dL_over_15 (by decide) ?_
  exact W.iret (v := 1) hx hb hr (fun t ht hW => ⟨⟨1, (), rfl, rfl, trivial⟩, hS.F ht⟩) hS.2.2 dL_over_16
set_option maxHeartbeats 4000000 in
set_option maxRecDepth 100000 in
theorem cL_gcd (l : Launch) (htr : l.stackTraces = false) (dC : Nat → ClassId) (dI : Nat → Nat → Nat) (h0 : Nat) (le : Int32) (qp sa : Nat) (sz : Nat) (p1 : Int32) (p2 : Int32) (p3 : Nat) : Met l yL_gcd wL_gcd ({ frames := 8, cells := 1, slots := 6, locals := 140 }) (va_Pc [.ref h0, .int p1, .int p2, .ref p3] (fun U => U.heap.size = sz ∧ gU dC dI h0 le qp sa U)) (va_Qi (fun (r : Int32) (_ : Unit) => r = 1) (fun _ _ => True) (fun q => sz ≤ q)) 1 6 (fun q => sz ≤ q) := by
  refine va_MetW (cc := bL_gcd) (maxL := 5) (ret := (some .int)) (by decide) rfl ?_
  intro p e s m args below meth c s₁ B hml hv
  obtain ⟨rfl, hsz, hU⟩ := hv
  have hx := B.exec
  have hb := B.bytes
  have hr := B.returns
  have hts := atoms_spec (ws := wL_gcd) B.pre
  have hk : ∀ w ∈ W0, w.before _ s = true := fun w h => hts w (List.mem_cons_of_mem _ h)
  have hown : s.vm.findClass "ImageGcdsLaw" = some m.cls := findClass_of_methodNamed B.named
  have hlocks := B.notSynchronized
  subst hsz
  have htab : c.exceptionTable.toList = tableOf [(0, 10, 13, 19), (0, 10, 17, 13)] := th_table B rfl
  have hl := lv_entry ([.ref h0, .int p1, .int p2, .ref p3]) (n := 5) (Nat.le_of_ble_eq_true rfl)
  rw [lg_entry_eq]
  generalize (lg_sl ([.ref h0, .int p1, .int p2, .ref p3]) ++ List.replicate (5 - (lg_sl ([.ref h0, .int p1, .int p2, .ref p3])).length) Slot.unset).toArray = ls at hl ⊢
  have hl : lv_has ls 5 [(0, .ref h0), (1, .int p1), (2, .int p2), (3, .ref p3)] := hl
  refine lv_aload_n hx hb dL_gcd_0 rfl (lv_at hl 3 rfl) ?_
  refine lv_iconst (v := 0) hx hb dL_gcd_1 (by decide) ?_
  refine lv_aload_n hx hb dL_gcd_2 rfl (lv_at hl 0 rfl) ?_
  refine lv_iload_n hx hb dL_gcd_3 rfl (lv_at hl 1 rfl) ?_
  refine lv_iload_n hx hb dL_gcd_4 rfl (lv_at hl 2 rfl) ?_
  refine th_catch (own := "ImageGcdsLaw") (x := ⟨0, 10, 13, 19⟩) htab rfl (by decide) rfl hown (hk _ k8) (th_runV (C := "ImageGcds") (As := [.int p1, .int p2]) (rest := [.int 0, .ref p3]) ⟨hx, hb, hml, hown, hk⟩ (cG_gcd l htr dC dI h0 le qp sa p1 p2) (cwV 2 hk (gV k25 k26 k27 k6 k28) rfl rfl rfl (by decide +kernel) ⟨Nat.le_of_ble_eq_true rfl, Nat.le_of_ble_eq_true rfl⟩) ⟨gU.bl, va_recv hU.2.1 hU.1 (ci := 0) (q0 := 0) rfl rfl, fun U hU2 hW => ⟨rfl, hU.go hW (fun q _ => by rw [hU2])⟩⟩ rfl rfl hl.1 rfl (lv_room (Nat.le_of_ble_eq_true rfl)) dL_gcd_5 ⟨Nat.le_of_ble_eq_true rfl, Nat.le_of_ble_eq_true rfl⟩) (fun a H1 hz ho => ?_)
  refine W.eq (g2 := F0 m 13 ls [.ref a]) rfl ?_
  have hS : va_S (fun q : Nat => s.heap.size ≤ q) s.heap H1 [] := ⟨hz, fun q h1 _ => ho q h1, fun _ h => nomatch h⟩
  refine lv_astore (lv' := [(4, .ref a), (0, .ref h0), (1, .int p1), (2, .int p2), (3, .ref p3)]) hx hb dL_gcd_13 hl (by decide) rfl (fun ls hl => ?_)
  refine lv_iconst (v := 1) hx hb dL_gcd_15 (by decide) ?_
  exact W.iret (v := 1) hx hb hr (fun t ht hW => ⟨⟨1, (), rfl, rfl, trivial⟩, hS.F ht⟩) hS.2.2 dL_gcd_16
set_option maxHeartbeats 4000000 in
set_option maxRecDepth 100000 in
theorem cL_resultant (l : Launch) (htr : l.stackTraces = false) (dC : Nat → ClassId) (dI : Nat → Nat → Nat) (h0 : Nat) (le : Int32) (qp sa : Nat) (sz : Nat) (p1 : Int32) (p2 : Int32) (p3 : Int32) (p4 : Nat) : Met l yL_resultant wL_resultant ({ frames := 8, cells := 1, slots := 6, locals := 140 }) (va_Pc [.ref h0, .int p1, .int p2, .int p3, .ref p4] (fun U => U.heap.size = sz ∧ gU dC dI h0 le qp sa U)) (va_Qi (fun (r : Int32) (_ : Unit) => r = 1) (fun _ _ => True) (fun q => sz ≤ q)) 1 6 (fun q => sz ≤ q) := by
  refine va_MetW (cc := bL_resultant) (maxL := 6) (ret := (some .int)) (by decide) rfl ?_
  intro p e s m args below meth c s₁ B hml hv
  obtain ⟨rfl, hsz, hU⟩ := hv
  have hx := B.exec
  have hb := B.bytes
  have hr := B.returns
  have hts := atoms_spec (ws := wL_resultant) B.pre
  have hk : ∀ w ∈ W0, w.before _ s = true := fun w h => hts w (List.mem_cons_of_mem _ h)
  have hown : s.vm.findClass "ImageGcdsLaw" = some m.cls := findClass_of_methodNamed B.named
  have hlocks := B.notSynchronized
  subst hsz
  have htab : c.exceptionTable.toList = tableOf [(0, 12, 15, 19), (0, 12, 19, 13), (0, 12, 23, 21)] := th_table B rfl
  have hl := lv_entry ([.ref h0, .int p1, .int p2, .int p3, .ref p4]) (n := 6) (Nat.le_of_ble_eq_true rfl)
  rw [lg_entry_eq]
  generalize (lg_sl ([.ref h0, .int p1, .int p2, .int p3, .ref p4]) ++ List.replicate (6 - (lg_sl ([.ref h0, .int p1, .int p2, .int p3, .ref p4])).length) Slot.unset).toArray = ls at hl ⊢
  have hl : lv_has ls 6 [(0, .ref h0), (1, .int p1), (2, .int p2), (3, .int p3), (4, .ref p4)] := hl
  refine lv_aload hx hb dL_resultant_0 (lv_at hl 4 rfl) ?_
  refine lv_iconst (v := 0) hx hb dL_resultant_2 (by decide) ?_
  refine lv_aload_n hx hb dL_resultant_3 rfl (lv_at hl 0 rfl) ?_
  refine lv_iload_n hx hb dL_resultant_4 rfl (lv_at hl 1 rfl) ?_
  refine lv_iload_n hx hb dL_resultant_5 rfl (lv_at hl 2 rfl) ?_
  refine lv_iload_n hx hb dL_resultant_6 rfl (lv_at hl 3 rfl) ?_
  refine th_catch (own := "ImageGcdsLaw") (x := ⟨0, 12, 15, 19⟩) htab rfl (by decide) rfl hown (hk _ k8) (th_runV (C := "ImageGcds") (As := [.int p1, .int p2, .int p3]) (rest := [.int 0, .ref p4]) ⟨hx, hb, hml, hown, hk⟩ (cG_resultant l htr dC dI h0 le qp sa p1 p2 p3) (cwV 3 hk (gV k29 k30 k31 k6 k32) rfl rfl rfl (by decide +kernel) ⟨Nat.le_of_ble_eq_true rfl, Nat.le_of_ble_eq_true rfl⟩) ⟨gU.bl, va_recv hU.2.1 hU.1 (ci := 0) (q0 := 0) rfl rfl, fun U hU2 hW => ⟨rfl, hU.go hW (fun q _ => by rw [hU2])⟩⟩ rfl rfl hl.1 rfl (lv_room (Nat.le_of_ble_eq_true rfl)) dL_resultant_7 ⟨Nat.le_of_ble_eq_true rfl, Nat.le_of_ble_eq_true rfl⟩) (fun a H1 hz ho => ?_)
  refine W.eq (g2 := F0 m 15 ls [.ref a]) rfl ?_
  have hS : va_S (fun q : Nat => s.heap.size ≤ q) s.heap H1 [] := ⟨hz, fun q h1 _ => ho q h1, fun _ h => nomatch h⟩
  refine lv_astore (lv' := [(5, .ref a), (0, .ref h0), (1, .int p1), (2, .int p2), (3, .int p3), (4, .ref p4)]) hx hb dL_resultant_15 hl (by decide) rfl (fun ls hl => ?_)
  refine lv_iconst (v := 1) hx hb dL_resultant_17 (by decide) ?_
  exact W.iret (v := 1) hx hb hr (fun t ht hW => ⟨⟨1, (), rfl, rfl, trivial⟩, hS.F ht⟩) hS.2.2 dL_resultant_18
set_option maxHeartbeats 4000000 in
set_option maxRecDepth 100000 in
theorem cL_slope (l : Launch) (htr : l.stackTraces = false) (dC : Nat → ClassId) (dI : Nat → Nat → Nat) (h0 : Nat) (le : Int32) (qp sa : Nat) (sz : Nat) (p1 : Int32) (p2 : Int32) (p3 : Nat) : Met l yL_slope wL_slope ({ frames := 8, cells := 1, slots := 6, locals := 140 }) (va_Pc [.ref h0, .int p1, .int p2, .ref p3] (fun U => U.heap.size = sz ∧ gU dC dI h0 le qp sa U)) (va_Qi (fun (r : Int32) (_ : Unit) => r = 1) (fun _ _ => True) (fun q => sz ≤ q)) 1 6 (fun q => sz ≤ q) := by
  refine va_MetW (cc := bL_slope) (maxL := 5) (ret := (some .int)) (by decide) rfl ?_
  intro p e s m args below meth c s₁ B hml hv
  obtain ⟨rfl, hsz, hU⟩ := hv
  have hx := B.exec
  have hb := B.bytes
  have hr := B.returns
  have hts := atoms_spec (ws := wL_slope) B.pre
  have hk : ∀ w ∈ W0, w.before _ s = true := fun w h => hts w (List.mem_cons_of_mem _ h)
  have hown : s.vm.findClass "ImageGcdsLaw" = some m.cls := findClass_of_methodNamed B.named
  have hlocks := B.notSynchronized
  subst hsz
  have htab : c.exceptionTable.toList = tableOf [(0, 10, 13, 19), (0, 10, 17, 13), (0, 10, 21, 21)] := th_table B rfl
  have hl := lv_entry ([.ref h0, .int p1, .int p2, .ref p3]) (n := 5) (Nat.le_of_ble_eq_true rfl)
  rw [lg_entry_eq]
  generalize (lg_sl ([.ref h0, .int p1, .int p2, .ref p3]) ++ List.replicate (5 - (lg_sl ([.ref h0, .int p1, .int p2, .ref p3])).length) Slot.unset).toArray = ls at hl ⊢
  have hl : lv_has ls 5 [(0, .ref h0), (1, .int p1), (2, .int p2), (3, .ref p3)] := hl
  refine lv_aload_n hx hb dL_slope_0 rfl (lv_at hl 3 rfl) ?_
  refine lv_iconst (v := 0) hx hb dL_slope_1 (by decide) ?_
  refine lv_aload_n hx hb dL_slope_2 rfl (lv_at hl 0 rfl) ?_
  refine lv_iload_n hx hb dL_slope_3 rfl (lv_at hl 1 rfl) ?_
  refine lv_iload_n hx hb dL_slope_4 rfl (lv_at hl 2 rfl) ?_
  refine th_catch (own := "ImageGcdsLaw") (x := ⟨0, 10, 13, 19⟩) htab rfl (by decide) rfl hown (hk _ k8) (th_runV (C := "ImageGcds") (As := [.int p1, .int p2]) (rest := [.int 0, .ref p3]) ⟨hx, hb, hml, hown, hk⟩ (cG_slope l htr dC dI h0 le qp sa p1 p2) (cwV 2 hk (gV k33 k34 k35 k6 k36) rfl rfl rfl (by decide +kernel) ⟨Nat.le_of_ble_eq_true rfl, Nat.le_of_ble_eq_true rfl⟩) ⟨gU.bl, va_recv hU.2.1 hU.1 (ci := 0) (q0 := 0) rfl rfl, fun U hU2 hW => ⟨rfl, hU.go hW (fun q _ => by rw [hU2])⟩⟩ rfl rfl hl.1 rfl (lv_room (Nat.le_of_ble_eq_true rfl)) dL_slope_5 ⟨Nat.le_of_ble_eq_true rfl, Nat.le_of_ble_eq_true rfl⟩) (fun a H1 hz ho => ?_)
  refine W.eq (g2 := F0 m 13 ls [.ref a]) rfl ?_
  have hS : va_S (fun q : Nat => s.heap.size ≤ q) s.heap H1 [] := ⟨hz, fun q h1 _ => ho q h1, fun _ h => nomatch h⟩
  refine lv_astore (lv' := [(4, .ref a), (0, .ref h0), (1, .int p1), (2, .int p2), (3, .ref p3)]) hx hb dL_slope_13 hl (by decide) rfl (fun ls hl => ?_)
  refine lv_iconst (v := 1) hx hb dL_slope_15 (by decide) ?_
  exact W.iret (v := 1) hx hb hr (fun t ht hW => ⟨⟨1, (), rfl, rfl, trivial⟩, hS.F ht⟩) hS.2.2 dL_slope_16
set_option maxHeartbeats 4000000 in
set_option maxRecDepth 100000 in
theorem cL_content (l : Launch) (htr : l.stackTraces = false) (dC : Nat → ClassId) (dI : Nat → Nat → Nat) (h0 : Nat) (le : Int32) (qp sa : Nat) (sz : Nat) (p1 : Int32) (p2 : Int32) (p3 : Nat) : Met l yL_content wL_content ({ frames := 8, cells := 1, slots := 6, locals := 140 }) (va_Pc [.ref h0, .int p1, .int p2, .ref p3] (fun U => U.heap.size = sz ∧ gU dC dI h0 le qp sa U)) (va_Qi (fun (r : Int32) (_ : Unit) => r = 1) (fun _ _ => True) (fun q => sz ≤ q)) 1 6 (fun q => sz ≤ q) := by
  refine va_MetW (cc := bL_content) (maxL := 5) (ret := (some .int)) (by decide) rfl ?_
  intro p e s m args below meth c s₁ B hml hv
  obtain ⟨rfl, hsz, hU⟩ := hv
  have hx := B.exec
  have hb := B.bytes
  have hr := B.returns
  have hts := atoms_spec (ws := wL_content) B.pre
  have hk : ∀ w ∈ W0, w.before _ s = true := fun w h => hts w (List.mem_cons_of_mem _ h)
  have hown : s.vm.findClass "ImageGcdsLaw" = some m.cls := findClass_of_methodNamed B.named
  have hlocks := B.notSynchronized
  subst hsz
  have htab : c.exceptionTable.toList = tableOf [(0, 10, 13, 19), (0, 10, 17, 13), (0, 10, 21, 21)] := th_table B rfl
  have hl := lv_entry ([.ref h0, .int p1, .int p2, .ref p3]) (n := 5) (Nat.le_of_ble_eq_true rfl)
  rw [lg_entry_eq]
  generalize (lg_sl ([.ref h0, .int p1, .int p2, .ref p3]) ++ List.replicate (5 - (lg_sl ([.ref h0, .int p1, .int p2, .ref p3])).length) Slot.unset).toArray = ls at hl ⊢
  have hl : lv_has ls 5 [(0, .ref h0), (1, .int p1), (2, .int p2), (3, .ref p3)] := hl
  refine lv_aload_n hx hb dL_content_0 rfl (lv_at hl 3 rfl) ?_
  refine lv_iconst (v := 0) hx hb dL_content_1 (by decide) ?_
  refine lv_aload_n hx hb dL_content_2 rfl (lv_at hl 0 rfl) ?_
  refine lv_iload_n hx hb dL_content_3 rfl (lv_at hl 1 rfl) ?_
  refine lv_iload_n hx hb dL_content_4 rfl (lv_at hl 2 rfl) ?_
  refine th_catch (own := "ImageGcdsLaw") (x := ⟨0, 10, 13, 19⟩) htab rfl (by decide) rfl hown (hk _ k8) (th_runV (C := "ImageGcds") (As := [.int p1, .int p2]) (rest := [.int 0, .ref p3]) ⟨hx, hb, hml, hown, hk⟩ (cG_content l htr dC dI h0 le qp sa p1 p2) (cwV 2 hk (gV k37 k38 k39 k6 k40) rfl rfl rfl (by decide +kernel) ⟨Nat.le_of_ble_eq_true rfl, Nat.le_of_ble_eq_true rfl⟩) ⟨gU.bl, va_recv hU.2.1 hU.1 (ci := 0) (q0 := 0) rfl rfl, fun U hU2 hW => ⟨rfl, hU.go hW (fun q _ => by rw [hU2])⟩⟩ rfl rfl hl.1 rfl (lv_room (Nat.le_of_ble_eq_true rfl)) dL_content_5 ⟨Nat.le_of_ble_eq_true rfl, Nat.le_of_ble_eq_true rfl⟩) (fun a H1 hz ho => ?_)
  refine W.eq (g2 := F0 m 13 ls [.ref a]) rfl ?_
  have hS : va_S (fun q : Nat => s.heap.size ≤ q) s.heap H1 [] := ⟨hz, fun q h1 _ => ho q h1, fun _ h => nomatch h⟩
  refine lv_astore (lv' := [(4, .ref a), (0, .ref h0), (1, .int p1), (2, .int p2), (3, .ref p3)]) hx hb dL_content_13 hl (by decide) rfl (fun ls hl => ?_)
  refine lv_iconst (v := 1) hx hb dL_content_15 (by decide) ?_
  exact W.iret (v := 1) hx hb hr (fun t ht hW => ⟨⟨1, (), rfl, rfl, trivial⟩, hS.F ht⟩) hS.2.2 dL_content_16
set_option maxHeartbeats 4000000 in
set_option maxRecDepth 100000 in
theorem cL_part (l : Launch) (htr : l.stackTraces = false) (dC : Nat → ClassId) (dI : Nat → Nat → Nat) (h0 : Nat) (le : Int32) (qp sa : Nat) (sz : Nat) (p1 : Int32) (p2 : Int32) (p3 : Nat) : Met l yL_part wL_part ({ frames := 8, cells := 1, slots := 6, locals := 140 }) (va_Pc [.ref h0, .int p1, .int p2, .ref p3] (fun U => U.heap.size = sz ∧ gU dC dI h0 le qp sa U)) (va_Qi (fun (r : Int32) (_ : Unit) => r = 1) (fun _ _ => True) (fun q => sz ≤ q)) 1 6 (fun q => sz ≤ q) := by
  refine va_MetW (cc := bL_part) (maxL := 5) (ret := (some .int)) (by decide) rfl ?_
  intro p e s m args below meth c s₁ B hml hv
  obtain ⟨rfl, hsz, hU⟩ := hv
  have hx := B.exec
  have hb := B.bytes
  have hr := B.returns
  have hts := atoms_spec (ws := wL_part) B.pre
  have hk : ∀ w ∈ W0, w.before _ s = true := fun w h => hts w (List.mem_cons_of_mem _ h)
  have hown : s.vm.findClass "ImageGcdsLaw" = some m.cls := findClass_of_methodNamed B.named
  have hlocks := B.notSynchronized
  subst hsz
  have htab : c.exceptionTable.toList = tableOf [(0, 10, 13, 19), (0, 10, 17, 13), (0, 10, 21, 21)] := th_table B rfl
  have hl := lv_entry ([.ref h0, .int p1, .int p2, .ref p3]) (n := 5) (Nat.le_of_ble_eq_true rfl)
  rw [lg_entry_eq]
  generalize (lg_sl ([.ref h0, .int p1, .int p2, .ref p3]) ++ List.replicate (5 - (lg_sl ([.ref h0, .int p1, .int p2, .ref p3])).length) Slot.unset).toArray = ls at hl ⊢
  have hl : lv_has ls 5 [(0, .ref h0), (1, .int p1), (2, .int p2), (3, .ref p3)] := hl
  refine lv_aload_n hx hb dL_part_0 rfl (lv_at hl 3 rfl) ?_
  refine lv_iconst (v := 0) hx hb dL_part_1 (by decide) ?_
  refine lv_aload_n hx hb dL_part_2 rfl (lv_at hl 0 rfl) ?_
  refine lv_iload_n hx hb dL_part_3 rfl (lv_at hl 1 rfl) ?_
  refine lv_iload_n hx hb dL_part_4 rfl (lv_at hl 2 rfl) ?_
  refine th_catch (own := "ImageGcdsLaw") (x := ⟨0, 10, 13, 19⟩) htab rfl (by decide) rfl hown (hk _ k8) (th_runV (C := "ImageGcds") (As := [.int p1, .int p2]) (rest := [.int 0, .ref p3]) ⟨hx, hb, hml, hown, hk⟩ (cG_part l htr dC dI h0 le qp sa p1 p2) (cwV 2 hk (gV k41 k42 k43 k6 k44) rfl rfl rfl (by decide +kernel) ⟨Nat.le_of_ble_eq_true rfl, Nat.le_of_ble_eq_true rfl⟩) ⟨gU.bl, va_recv hU.2.1 hU.1 (ci := 0) (q0 := 0) rfl rfl, fun U hU2 hW => ⟨rfl, hU.go hW (fun q _ => by rw [hU2])⟩⟩ rfl rfl hl.1 rfl (lv_room (Nat.le_of_ble_eq_true rfl)) dL_part_5 ⟨Nat.le_of_ble_eq_true rfl, Nat.le_of_ble_eq_true rfl⟩) (fun a H1 hz ho => ?_)
  refine W.eq (g2 := F0 m 13 ls [.ref a]) rfl ?_
  have hS : va_S (fun q : Nat => s.heap.size ≤ q) s.heap H1 [] := ⟨hz, fun q h1 _ => ho q h1, fun _ h => nomatch h⟩
  refine lv_astore (lv' := [(4, .ref a), (0, .ref h0), (1, .int p1), (2, .int p2), (3, .ref p3)]) hx hb dL_part_13 hl (by decide) rfl (fun ls hl => ?_)
  refine lv_iconst (v := 1) hx hb dL_part_15 (by decide) ?_
  exact W.iret (v := 1) hx hb hr (fun t ht hW => ⟨⟨1, (), rfl, rfl, trivial⟩, hS.F ht⟩) hS.2.2 dL_part_16
set_option maxHeartbeats 4000000 in
set_option maxRecDepth 100000 in
theorem cL_image (l : Launch) (htr : l.stackTraces = false) (dC : Nat → ClassId) (dI : Nat → Nat → Nat) (h0 : Nat) (le : Int32) (qp sa : Nat) (sz : Nat) (p1 : Int32) (p2 : Int32) (p3 : Int32) (p4 : Nat) : Met l yL_image wL_image ({ frames := 8, cells := 1, slots := 6, locals := 140 }) (va_Pc [.ref h0, .int p1, .int p2, .int p3, .ref p4] (fun U => U.heap.size = sz ∧ gU dC dI h0 le qp sa U)) (va_Qi (fun (r : Int32) (_ : Unit) => r = 1) (fun _ _ => True) (fun q => sz ≤ q)) 1 6 (fun q => sz ≤ q) := by
  refine va_MetW (cc := bL_image) (maxL := 6) (ret := (some .int)) (by decide) rfl ?_
  intro p e s m args below meth c s₁ B hml hv
  obtain ⟨rfl, hsz, hU⟩ := hv
  have hx := B.exec
  have hb := B.bytes
  have hr := B.returns
  have hts := atoms_spec (ws := wL_image) B.pre
  have hk : ∀ w ∈ W0, w.before _ s = true := fun w h => hts w (List.mem_cons_of_mem _ h)
  have hown : s.vm.findClass "ImageGcdsLaw" = some m.cls := findClass_of_methodNamed B.named
  have hlocks := B.notSynchronized
  subst hsz
  have htab : c.exceptionTable.toList = tableOf [(0, 12, 15, 19), (0, 12, 19, 13), (0, 12, 23, 21)] := th_table B rfl
  have hl := lv_entry ([.ref h0, .int p1, .int p2, .int p3, .ref p4]) (n := 6) (Nat.le_of_ble_eq_true rfl)
  rw [lg_entry_eq]
  generalize (lg_sl ([.ref h0, .int p1, .int p2, .int p3, .ref p4]) ++ List.replicate (6 - (lg_sl ([.ref h0, .int p1, .int p2, .int p3, .ref p4])).length) Slot.unset).toArray = ls at hl ⊢
  have hl : lv_has ls 6 [(0, .ref h0), (1, .int p1), (2, .int p2), (3, .int p3), (4, .ref p4)] := hl
  refine lv_aload hx hb dL_image_0 (lv_at hl 4 rfl) ?_
  refine lv_iconst (v := 0) hx hb dL_image_2 (by decide) ?_
  refine lv_aload_n hx hb dL_image_3 rfl (lv_at hl 0 rfl) ?_
  refine lv_iload_n hx hb dL_image_4 rfl (lv_at hl 1 rfl) ?_
  refine lv_iload_n hx hb dL_image_5 rfl (lv_at hl 2 rfl) ?_
  refine lv_iload_n hx hb dL_image_6 rfl (lv_at hl 3 rfl) ?_
  refine th_catch (own := "ImageGcdsLaw") (x := ⟨0, 12, 15, 19⟩) htab rfl (by decide) rfl hown (hk _ k8) (th_runV (C := "ImageGcds") (As := [.int p1, .int p2, .int p3]) (rest := [.int 0, .ref p4]) ⟨hx, hb, hml, hown, hk⟩ (cG_image l htr dC dI h0 le qp sa p1 p2 p3) (cwV 3 hk (gV k45 k46 k47 k6 k48) rfl rfl rfl (by decide +kernel) ⟨Nat.le_of_ble_eq_true rfl, Nat.le_of_ble_eq_true rfl⟩) ⟨gU.bl, va_recv hU.2.1 hU.1 (ci := 0) (q0 := 0) rfl rfl, fun U hU2 hW => ⟨rfl, hU.go hW (fun q _ => by rw [hU2])⟩⟩ rfl rfl hl.1 rfl (lv_room (Nat.le_of_ble_eq_true rfl)) dL_image_7 ⟨Nat.le_of_ble_eq_true rfl, Nat.le_of_ble_eq_true rfl⟩) (fun a H1 hz ho => ?_)
  refine W.eq (g2 := F0 m 15 ls [.ref a]) rfl ?_
  have hS : va_S (fun q : Nat => s.heap.size ≤ q) s.heap H1 [] := ⟨hz, fun q h1 _ => ho q h1, fun _ h => nomatch h⟩
  refine lv_astore (lv' := [(5, .ref a), (0, .ref h0), (1, .int p1), (2, .int p2), (3, .int p3), (4, .ref p4)]) hx hb dL_image_15 hl (by decide) rfl (fun ls hl => ?_)
  refine lv_iconst (v := 1) hx hb dL_image_17 (by decide) ?_
  exact W.iret (v := 1) hx hb hr (fun t ht hW => ⟨⟨1, (), rfl, rfl, trivial⟩, hS.F ht⟩) hS.2.2 dL_image_18
set_option maxHeartbeats 4000000 in
set_option maxRecDepth 100000 in
theorem cL_equal (l : Launch) (htr : l.stackTraces = false) (dC : Nat → ClassId) (dI : Nat → Nat → Nat) (h0 : Nat) (le : Int32) (qp sa : Nat) (sz : Nat) (p1 : Int32) (p2 : Int32) (p3 : Nat) : Met l yL_equal wL_equal ({ frames := 8, cells := 1, slots := 6, locals := 140 }) (va_Pc [.ref h0, .int p1, .int p2, .ref p3] (fun U => U.heap.size = sz ∧ gU dC dI h0 le qp sa U)) (va_Qi (fun (r : Int32) (_ : Unit) => r = 1) (fun _ _ => True) (fun q => sz ≤ q)) 1 6 (fun q => sz ≤ q) := by
  refine va_MetW (cc := bL_equal) (maxL := 5) (ret := (some .int)) (by decide) rfl ?_
  intro p e s m args below meth c s₁ B hml hv
  obtain ⟨rfl, hsz, hU⟩ := hv
  have hx := B.exec
  have hb := B.bytes
  have hr := B.returns
  have hts := atoms_spec (ws := wL_equal) B.pre
  have hk : ∀ w ∈ W0, w.before _ s = true := fun w h => hts w (List.mem_cons_of_mem _ h)
  have hown : s.vm.findClass "ImageGcdsLaw" = some m.cls := findClass_of_methodNamed B.named
  have hlocks := B.notSynchronized
  subst hsz
  have htab : c.exceptionTable.toList = tableOf [(0, 17, 20, 19)] := th_table B rfl
  have hl := lv_entry ([.ref h0, .int p1, .int p2, .ref p3]) (n := 5) (Nat.le_of_ble_eq_true rfl)
  rw [lg_entry_eq]
  generalize (lg_sl ([.ref h0, .int p1, .int p2, .ref p3]) ++ List.replicate (5 - (lg_sl ([.ref h0, .int p1, .int p2, .ref p3])).length) Slot.unset).toArray = ls at hl ⊢
  have hl : lv_has ls 5 [(0, .ref h0), (1, .int p1), (2, .int p2), (3, .ref p3)] := hl
  refine lv_aload_n hx hb dL_equal_0 rfl (lv_at hl 3 rfl) ?_
  refine lv_iconst (v := 0) hx hb dL_equal_1 (by decide) ?_
  refine lv_aload_n hx hb dL_equal_2 rfl (lv_at hl 0 rfl) ?_
  refine lv_iload_n hx hb dL_equal_3 rfl (lv_at hl 1 rfl) ?_
  refine lv_iload_n hx hb dL_equal_4 rfl (lv_at hl 2 rfl) ?_
  refine th_catch (own := "ImageGcdsLaw") (x := ⟨0, 17, 20, 19⟩) htab rfl (by decide) rfl hown (hk _ k8) (th_runV (C := "ImageGcds") (As := [.int p1, .int p2]) (rest := [.int 0, .ref p3]) ⟨hx, hb, hml, hown, hk⟩ (cG_equal l htr dC dI h0 le qp sa p1 p2) (cwV 2 hk (gV k49 k50 k51 k6 k52) rfl rfl rfl (by decide +kernel) ⟨Nat.le_of_ble_eq_true rfl, Nat.le_of_ble_eq_true rfl⟩) ⟨gU.bl, va_recv hU.2.1 hU.1 (ci := 0) (q0 := 0) rfl rfl, fun U hU2 hW => ⟨rfl, hU.go hW (fun q _ => by rw [hU2])⟩⟩ rfl rfl hl.1 rfl (lv_room (Nat.le_of_ble_eq_true rfl)) dL_equal_5 ⟨Nat.le_of_ble_eq_true rfl, Nat.le_of_ble_eq_true rfl⟩) (fun a H1 hz ho => ?_)
  refine W.eq (g2 := F0 m 20 ls [.ref a]) rfl ?_
  have hS : va_S (fun q : Nat => s.heap.size ≤ q) s.heap H1 [] := ⟨hz, fun q h1 _ => ho q h1, fun _ h => nomatch h⟩
  refine lv_astore (lv' := [(4, .ref a), (0, .ref h0), (1, .int p1), (2, .int p2), (3, .ref p3)]) hx hb dL_equal_20 hl (by decide) rfl (fun ls hl => ?_)
  refine lv_iconst (v := 1) hx hb dL_equal_22 (by decide) ?_
  exact W.iret (v := 1) hx hb hr (fun t ht hW => ⟨⟨1, (), rfl, rfl, trivial⟩, hS.F ht⟩) hS.2.2 dL_equal_23
set_option maxHeartbeats 4000000 in
set_option maxRecDepth 100000 in
theorem cL_terms (l : Launch) (htr : l.stackTraces = false) (dC : Nat → ClassId) (dI : Nat → Nat → Nat) (h0 : Nat) (le : Int32) (qp sa : Nat) (sz : Nat) (p1 : Int32) (p2 : Nat) : Met l yL_terms wL_terms ({ frames := 8, cells := 1, slots := 6, locals := 140 }) (va_Pc [.ref h0, .int p1, .ref p2] (fun U => U.heap.size = sz ∧ gU dC dI h0 le qp sa U)) (va_Qi (fun (r : Int32) (_ : Unit) => r = 1) (fun _ _ => True) (fun q => sz ≤ q)) 1 6 (fun q => sz ≤ q) := by
  refine va_MetW (cc := bL_terms) (maxL := 4) (ret := (some .int)) (by decide) rfl ?_
  intro p e s m args below meth c s₁ B hml hv
  obtain ⟨rfl, hsz, hU⟩ := hv
  have hx := B.exec
  have hb := B.bytes
  have hr := B.returns
  have hts := atoms_spec (ws := wL_terms) B.pre
  have hk : ∀ w ∈ W0, w.before _ s = true := fun w h => hts w (List.mem_cons_of_mem _ h)
  have hown : s.vm.findClass "ImageGcdsLaw" = some m.cls := findClass_of_methodNamed B.named
  have hlocks := B.notSynchronized
  subst hsz
  have htab : c.exceptionTable.toList = tableOf [(0, 9, 12, 19)] := th_table B rfl
  have hl := lv_entry ([.ref h0, .int p1, .ref p2]) (n := 4) (Nat.le_of_ble_eq_true rfl)
  rw [lg_entry_eq]
  generalize (lg_sl ([.ref h0, .int p1, .ref p2]) ++ List.replicate (4 - (lg_sl ([.ref h0, .int p1, .ref p2])).length) Slot.unset).toArray = ls at hl ⊢
  have hl : lv_has ls 4 [(0, .ref h0), (1, .int p1), (2, .ref p2)] := hl
  refine lv_aload_n hx hb dL_terms_0 rfl (lv_at hl 2 rfl) ?_
  refine lv_iconst (v := 0) hx hb dL_terms_1 (by decide) ?_
  refine lv_aload_n hx hb dL_terms_2 rfl (lv_at hl 0 rfl) ?_
  refine lv_iload_n hx hb dL_terms_3 rfl (lv_at hl 1 rfl) ?_
  refine th_catch (own := "ImageGcdsLaw") (x := ⟨0, 9, 12, 19⟩) htab rfl (by decide) rfl hown (hk _ k8) (th_runV (C := "ImageGcds") (As := [.int p1]) (rest := [.int 0, .ref p2]) ⟨hx, hb, hml, hown, hk⟩ (cG_terms l htr dC dI h0 le qp sa p1) (cwV 1 hk (gV k53 k54 k55 k6 k56) rfl rfl rfl (by decide +kernel) ⟨Nat.le_of_ble_eq_true rfl, Nat.le_of_ble_eq_true rfl⟩) ⟨gU.bl, va_recv hU.2.1 hU.1 (ci := 0) (q0 := 0) rfl rfl, fun U hU2 hW => ⟨rfl, hU.go hW (fun q _ => by rw [hU2])⟩⟩ rfl rfl hl.1 rfl (lv_room (Nat.le_of_ble_eq_true rfl)) dL_terms_4 ⟨Nat.le_of_ble_eq_true rfl, Nat.le_of_ble_eq_true rfl⟩) (fun a H1 hz ho => ?_)
  refine W.eq (g2 := F0 m 12 ls [.ref a]) rfl ?_
  have hS : va_S (fun q : Nat => s.heap.size ≤ q) s.heap H1 [] := ⟨hz, fun q h1 _ => ho q h1, fun _ h => nomatch h⟩
  refine lv_astore_n (lv' := [(3, .ref a), (0, .ref h0), (1, .int p1), (2, .ref p2)]) hx hb dL_terms_12 rfl hl (by decide) rfl (fun ls hl => ?_)
  refine lv_iconst (v := 1) hx hb dL_terms_13 (by decide) ?_
  exact W.iret (v := 1) hx hb hr (fun t ht hW => ⟨⟨1, (), rfl, rfl, trivial⟩, hS.F ht⟩) hS.2.2 dL_terms_14
set_option maxHeartbeats 4000000 in
set_option maxRecDepth 100000 in
theorem cL_at (l : Launch) (htr : l.stackTraces = false) (dC : Nat → ClassId) (dI : Nat → Nat → Nat) (h0 : Nat) (le : Int32) (qp sa : Nat) (sz : Nat) (p1 : Int32) (p2 : Int32) (p3 : Int32) (p4 : Nat) : Met l yL_at wL_at ({ frames := 8, cells := 1, slots := 6, locals := 140 }) (va_Pc [.ref h0, .int p1, .int p2, .int p3, .ref p4] (fun U => U.heap.size = sz ∧ gU dC dI h0 le qp sa U)) (va_Qi (fun (r : Int32) (_ : Unit) => r = 1) (fun _ _ => True) (fun q => sz ≤ q)) 1 6 (fun q => sz ≤ q) := by
  refine va_MetW (cc := bL_at) (maxL := 6) (ret := (some .int)) (by decide) rfl ?_
  intro p e s m args below meth c s₁ B hml hv
  obtain ⟨rfl, hsz, hU⟩ := hv
  have hx := B.exec
  have hb := B.bytes
  have hr := B.returns
  have hts := atoms_spec (ws := wL_at) B.pre
  have hk : ∀ w ∈ W0, w.before _ s = true := fun w h => hts w (List.mem_cons_of_mem _ h)
  have hown : s.vm.findClass "ImageGcdsLaw" = some m.cls := findClass_of_methodNamed B.named
  have hlocks := B.notSynchronized
  subst hsz
  have htab : c.exceptionTable.toList = tableOf [(0, 12, 15, 19), (0, 12, 19, 21)] := th_table B rfl
  have hl := lv_entry ([.ref h0, .int p1, .int p2, .int p3, .ref p4]) (n := 6) (Nat.le_of_ble_eq_true rfl)
  rw [lg_entry_eq]
  generalize (lg_sl ([.ref h0, .int p1, .int p2, .int p3, .ref p4]) ++ List.replicate (6 - (lg_sl ([.ref h0, .int p1, .int p2, .int p3, .ref p4])).length) Slot.unset).toArray = ls at hl ⊢
  have hl : lv_has ls 6 [(0, .ref h0), (1, .int p1), (2, .int p2), (3, .int p3), (4, .ref p4)] := hl
  refine lv_aload hx hb dL_at_0 (lv_at hl 4 rfl) ?_
  refine lv_iconst (v := 0) hx hb dL_at_2 (by decide) ?_
  refine lv_aload_n hx hb dL_at_3 rfl (lv_at hl 0 rfl) ?_
  refine lv_iload_n hx hb dL_at_4 rfl (lv_at hl 1 rfl) ?_
  refine lv_iload_n hx hb dL_at_5 rfl (lv_at hl 2 rfl) ?_
  refine lv_iload_n hx hb dL_at_6 rfl (lv_at hl 3 rfl) ?_
  refine th_catch (own := "ImageGcdsLaw") (x := ⟨0, 12, 15, 19⟩) htab rfl (by decide) rfl hown (hk _ k8) (th_runV (C := "ImageGcds") (As := [.int p1, .int p2, .int p3]) (rest := [.int 0, .ref p4]) ⟨hx, hb, hml, hown, hk⟩ (cG_at l htr dC dI h0 le qp sa p1 p2 p3) (cwV 3 hk (gV k57 k58 k59 k6 k60) rfl rfl rfl (by decide +kernel) ⟨Nat.le_of_ble_eq_true rfl, Nat.le_of_ble_eq_true rfl⟩) ⟨gU.bl, va_recv hU.2.1 hU.1 (ci := 0) (q0 := 0) rfl rfl, fun U hU2 hW => ⟨rfl, hU.go hW (fun q _ => by rw [hU2])⟩⟩ rfl rfl hl.1 rfl (lv_room (Nat.le_of_ble_eq_true rfl)) dL_at_7 ⟨Nat.le_of_ble_eq_true rfl, Nat.le_of_ble_eq_true rfl⟩) (fun a H1 hz ho => ?_)
  refine W.eq (g2 := F0 m 15 ls [.ref a]) rfl ?_
  have hS : va_S (fun q : Nat => s.heap.size ≤ q) s.heap H1 [] := ⟨hz, fun q h1 _ => ho q h1, fun _ h => nomatch h⟩
  refine lv_astore (lv' := [(5, .ref a), (0, .ref h0), (1, .int p1), (2, .int p2), (3, .int p3), (4, .ref p4)]) hx hb dL_at_15 hl (by decide) rfl (fun ls hl => ?_)
  refine lv_iconst (v := 1) hx hb dL_at_17 (by decide) ?_
  exact W.iret (v := 1) hx hb hr (fun t ht hW => ⟨⟨1, (), rfl, rfl, trivial⟩, hS.F ht⟩) hS.2.2 dL_at_18
set_option maxHeartbeats 4000000 in
set_option maxRecDepth 100000 in
theorem cL_degree (l : Launch) (htr : l.stackTraces = false) (dC : Nat → ClassId) (dI : Nat → Nat → Nat) (h0 : Nat) (le : Int32) (qp sa : Nat) (sz : Nat) (p1 : Int32) (p2 : Int32) (p3 : Nat) : Met l yL_degree wL_degree ({ frames := 8, cells := 1, slots := 6, locals := 140 }) (va_Pc [.ref h0, .int p1, .int p2, .ref p3] (fun U => U.heap.size = sz ∧ gU dC dI h0 le qp sa U)) (va_Qi (fun (r : Int32) (_ : Unit) => r = 1) (fun _ _ => True) (fun q => sz ≤ q)) 1 6 (fun q => sz ≤ q) := by
  refine va_MetW (cc := bL_degree) (maxL := 5) (ret := (some .int)) (by decide) rfl ?_
  intro p e s m args below meth c s₁ B hml hv
  obtain ⟨rfl, hsz, hU⟩ := hv
  have hx := B.exec
  have hb := B.bytes
  have hr := B.returns
  have hts := atoms_spec (ws := wL_degree) B.pre
  have hk : ∀ w ∈ W0, w.before _ s = true := fun w h => hts w (List.mem_cons_of_mem _ h)
  have hown : s.vm.findClass "ImageGcdsLaw" = some m.cls := findClass_of_methodNamed B.named
  have hlocks := B.notSynchronized
  subst hsz
  have htab : c.exceptionTable.toList = tableOf [(0, 10, 13, 19), (0, 10, 17, 21)] := th_table B rfl
  have hl := lv_entry ([.ref h0, .int p1, .int p2, .ref p3]) (n := 5) (Nat.le_of_ble_eq_true rfl)
  rw [lg_entry_eq]
  generalize (lg_sl ([.ref h0, .int p1, .int p2, .ref p3]) ++ List.replicate (5 - (lg_sl ([.ref h0, .int p1, .int p2, .ref p3])).length) Slot.unset).toArray = ls at hl ⊢
  have hl : lv_has ls 5 [(0, .ref h0), (1, .int p1), (2, .int p2), (3, .ref p3)] := hl
  refine lv_aload_n hx hb dL_degree_0 rfl (lv_at hl 3 rfl) ?_
  refine lv_iconst (v := 0) hx hb dL_degree_1 (by decide) ?_
  refine lv_aload_n hx hb dL_degree_2 rfl (lv_at hl 0 rfl) ?_
  refine lv_iload_n hx hb dL_degree_3 rfl (lv_at hl 1 rfl) ?_
  refine lv_iload_n hx hb dL_degree_4 rfl (lv_at hl 2 rfl) ?_
  refine th_catch (own := "ImageGcdsLaw") (x := ⟨0, 10, 13, 19⟩) htab rfl (by decide) rfl hown (hk _ k8) (th_runV (C := "ImageGcds") (As := [.int p1, .int p2]) (rest := [.int 0, .ref p3]) ⟨hx, hb, hml, hown, hk⟩ (cG_degree l htr dC dI h0 le qp sa p1 p2) (cwV 2 hk (gV k61 k62 k63 k6 k64) rfl rfl rfl (by decide +kernel) ⟨Nat.le_of_ble_eq_true rfl, Nat.le_of_ble_eq_true rfl⟩) ⟨gU.bl, va_recv hU.2.1 hU.1 (ci := 0) (q0 := 0) rfl rfl, fun U hU2 hW => ⟨rfl, hU.go hW (fun q _ => by rw [hU2])⟩⟩ rfl rfl hl.1 rfl (lv_room (Nat.le_of_ble_eq_true rfl)) dL_degree_5 ⟨Nat.le_of_ble_eq_true rfl, Nat.le_of_ble_eq_true rfl⟩) (fun a H1 hz ho => ?_)
  refine W.eq (g2 := F0 m 13 ls [.ref a]) rfl ?_
  have hS : va_S (fun q : Nat => s.heap.size ≤ q) s.heap H1 [] := ⟨hz, fun q h1 _ => ho q h1, fun _ h => nomatch h⟩
  refine lv_astore (lv' := [(4, .ref a), (0, .ref h0), (1, .int p1), (2, .int p2), (3, .ref p3)]) hx hb dL_degree_13 hl (by decide) rfl (fun ls hl => ?_)
  refine lv_iconst (v := 1) hx hb dL_degree_15 (by decide) ?_
  exact W.iret (v := 1) hx hb hr (fun t ht hW => ⟨⟨1, (), rfl, rfl, trivial⟩, hS.F ht⟩) hS.2.2 dL_degree_16
end
section
def gI9 (A : Nat → Prop) (dC : Nat → ClassId) (dI : Nat → Nat → Nat) (h0 : Nat) (t : State) : Prop := ∃ (le : Int32) (qp : Nat) (cA : ClassId), va_P (dC, dI) cls9 [(h0, .inr (0, [.int le, .ref qp, .int 0, .null])), (qp, .inl (cA, 60, .inr (.inr (.inr (.inr (fun _ => none))))))] t.heap ∧ va_K (dC, dI) cls9 [(cA, .object "ImageGcds$Poly")] t ∧ va_D A [(h0, .inr (0, [.int le, .ref qp, .int 0, .null])), (qp, .inl (cA, 60, .inr (.inr (.inr (.inr (fun _ => none))))))]
def mI9 (A : Nat → Prop) (dC : Nat → ClassId) (dI : Nat → Nat → Nat) (h0 : Nat) (t : State) : Prop := ∃ (le : Int32) (qn : Nat) (cA : ClassId) (f : Nat → Int32) (fs : List Value), va_P (dC, dI) cls9 [(h0, .inr (2, .int 0 :: .int le :: .int 0 :: .ref qn :: fs)), (qn, .inl (cA, 290816, .inl f))] t.heap ∧ va_K (dC, dI) cls9 [(cA, .int)] t ∧ va_D A [(h0, .inr (2, .int 0 :: .int le :: .int 0 :: .ref qn :: fs)), (qn, .inl (cA, 290816, .inl f))]
def pI9 (A : Nat → Prop) (dC : Nat → ClassId) (dI : Nat → Nat → Nat) (h0 : Nat) (t : State) : Prop := ∃ (q1 q2 : Nat), va_P (dC, dI) cls9 [(h0, .inr (1, [.int 0, .ref q1, .ref q2]))] t.heap ∧ va_K (dC, dI) cls9 [] t ∧ va_D A [(h0, .inr (1, [.int 0, .ref q1, .ref q2]))]
set_option maxHeartbeats 4000000 in
set_option maxRecDepth 100000 in
theorem cG_init (l : Launch) (dC : Nat → ClassId) (dI : Nat → Nat → Nat) (h0 : Nat) (sz : Nat) (p0 : Int32) : Met l yG_init wG_init ({ frames := 1, cells := 1, slots := 60, locals := 20 }) (va_Pc [.ref h0, .int p0] (fun U => U.heap.size = sz ∧ va_P (dC, dI) cls9 [(h0, .inr (0, [.int 0, .null, .int 0, .null]))] U.heap ∧ va_K (dC, dI) cls9 [] U ∧ va_AO "ImageGcds$Poly" U)) (va_Qv (fun _ : Unit => True) (fun _ t => gI9 (va_A [(h0, .inr (0, [.int 0, .null, .int 0, .null]))] sz) dC dI h0 t) (va_A [(h0, .inr (0, [.int 0, .null, .int 0, .null]))] sz)) 1 60 (va_A [(h0, .inr (0, [.int 0, .null, .int 0, .null]))] sz) := by
  refine Met.ofW (cc := bG_init) (maxL := 2) (ret := none) (by decide) rfl ?_
  intro p e s m args below meth c s₁ B hml hv
  obtain ⟨rfl, hsz, hP, hK, hAO⟩ := hv
  have hx := B.exec
  have hb := B.bytes
  have hr := B.returns
  have hts := atoms_spec (ws := wG_init) B.pre
  have hk : ∀ w ∈ W0, w.before _ s = true := fun w h => hts w (List.mem_cons_of_mem _ h)
  have hown : s.vm.findClass "ImageGcds" = some m.cls := findClass_of_methodNamed B.named
  have hlocks := B.notSynchronized
  have hin : meth.name = "<init>" := (name_of_methodNamed B.named B.method).1
  subst hsz
  have hD : va_D (va_A [(h0, .inr (0, [.int 0, .null, .int 0, .null]))] s.heap.size) [(h0, .inr (0, [.int 0, .null, .int 0, .null]))] := mD.self
  generalize hAe : va_A [(h0, .inr (0, [.int 0, .null, .int 0, .null]))] s.heap.size = A at hD ⊢
  have hA : ∀ q : Nat, s.heap.size ≤ q → A q := fun q h => by rw [← hAe]; exact Or.inr h
  have hS : va_S A s.heap s.heap [] := va_S.rf
  have hP : va_P (dC, dI) cls9 [(h0, .inr (0, [.int 0, .null, .int 0, .null]))] s.heap := hP
  have hl := lv_entry ([.ref h0, .int p0]) (n := 2) (Nat.le_of_ble_eq_true rfl)
  rw [lg_entry_eq]
  generalize (lg_sl ([.ref h0, .int p0]) ++ List.replicate (2 - (lg_sl ([.ref h0, .int p0])).length) Slot.unset).toArray = ls at hl ⊢
  have hl : lv_has ls 2 [(0, .ref h0), (1, .int p0)] := hl
  refine lv_aload_n hx hb dG_init_0 rfl (lv_at hl 0 rfl) ?_
  refine W.objInit hx hb hown (hk _ k93) (hk _ k94) (hk _ k95) rfl (by rw [hml]; exact hl.1) rfl dG_init_1 (Nat.le_of_ble_eq_true rfl) (Nat.le_of_ble_eq_true rfl) ?_
  refine W.eq (g2 := F0 m 4 ls []) rfl ?_
  refine lv_aload_n hx hb dG_init_4 rfl (lv_at hl 0 rfl) ?_
  refine lv_iload_n hx hb dG_init_5 rfl (lv_at hl 1 rfl) ?_
  refine lv_iconst (v := 1) hx hb dG_init_6 (by decide) ?_
  refine lv_icmp_ge (tgt := 14) hx hb dG_init_7 (by decide) (fun c120 => ?_) (fun c120 => ?_)
  · skip
    refine lv_iload_n hx hb dG_init_14 rfl (lv_at hl 1 rfl) ?_
    refine lv_iconst (v := 3) hx hb dG_init_15 (by decide) ?_
    refine lv_icmp_le (tgt := 23) hx hb dG_init_16 (by decide) (fun c121 => ?_) (fun c121 => ?_)
    · skip
      refine lv_iload_n hx hb dG_init_23 rfl (lv_at hl 1 rfl) ?_
      refine va_putF (D := (dC, dI)) (ci := 0) (v := .int p0) (ty := .int) (C := "ImageGcds") (T := TG) (N := 4) hx hb hk uG tG tG_ok nG hown hK hP hD hS 0 rfl rfl 0 (by decide) (hk _ k96) (fun _ h9 => h9) rfl hin rfl (by decide +kernel) rfl rfl (Nat.le_of_ble_eq_true rfl) dG_init_24 (fun H locs hP hD hS => ?_)
      have hP : va_P (dC, dI) cls9 [(h0, .inr (0, [.int p0, .null, .int 0, .null]))] H := hP
      have hD : va_D A [(h0, .inr (0, [.int p0, .null, .int 0, .null]))] := hD
      refine lv_aload_n hx hb dG_init_27 rfl (lv_at hl 0 rfl) ?_
      refine lv_bipush (v := 60) hx hb dG_init_28 (by decide) ?_
      refine va_newq (N' := 60) (C := "ImageGcds$Poly") hx hb hown (hk _ k97) hAO hK hP hD hS hA (by decide) (by decide) (by decide) (Nat.le_of_ble_eq_true rfl) (Nat.le_of_ble_eq_true rfl) dG_init_30 (fun q122 cA123 H hK hP hD hS => ?_)
      have hP : va_P (dC, dI) cls9 [(h0, .inr (0, [.int p0, .null, .int 0, .null])), (q122, .inl (cA123, 60, .inr (.inr (.inr (.inr (fun _ => none))))))] H := hP
      have hD : va_D A [(h0, .inr (0, [.int p0, .null, .int 0, .null])), (q122, .inl (cA123, 60, .inr (.inr (.inr (.inr (fun _ => none))))))] := hD
      have hK : va_K (dC, dI) cls9 [(cA123, .object "ImageGcds$Poly")] s := hK
      refine va_putF (D := (dC, dI)) (ci := 0) (v := .ref q122) (ty := .array (.object "ImageGcds$Poly")) (C := "ImageGcds") (T := TG) (N := 4) hx hb hk uG tG tG_ok nG hown hK hP hD hS 0 rfl rfl 1 (by decide) (hk _ k98) (fun _ h9 => h9) rfl hin rfl (by decide +kernel) rfl rfl (Nat.le_of_ble_eq_true rfl) dG_init_33 (fun H locs hP hD hS => ?_)
      have hP : va_P (dC, dI) cls9 [(h0, .inr (0, [.int p0, .ref q122, .int 0, .null])), (q122, .inl (cA123, 60, .inr (.inr (.inr (.inr (fun _ => none))))))] H := hP
      have hD : va_D A [(h0, .inr (0, [.int p0, .ref q122, .int 0, .null])), (q122, .inl (cA123, 60, .inr (.inr (.inr (.inr (fun _ => none))))))] := hD
      refine lv_aload_n hx hb dG_init_36 rfl (lv_at hl 0 rfl) ?_
      refine lv_iconst (v := 0) hx hb dG_init_37 (by decide) ?_
      refine va_put (D := (dC, dI)) (ci := 0) (v := .int 0) (ty := .int) (C := "ImageGcds") (T := TG) (N := 4) hx hb hk uG tG tG_ok nG hown hK hP hD hS 0 rfl rfl 2 (by decide) (hk _ k2) (fun _ h9 => h9) rfl (by decide +kernel) rfl rfl (Nat.le_of_ble_eq_true rfl) dG_init_38 (fun H locs hP hD hS => ?_)
      have hP : va_P (dC, dI) cls9 [(h0, .inr (0, [.int p0, .ref q122, .int 0, .null])), (q122, .inl (cA123, 60, .inr (.inr (.inr (.inr (fun _ => none))))))] H := hP
      have hD : va_D A [(h0, .inr (0, [.int p0, .ref q122, .int 0, .null])), (q122, .inl (cA123, 60, .inr (.inr (.inr (.inr (fun _ => none))))))] := hD
      have hP9 := hP.sub (ws' := [(h0, .inr (0, [.int p0, .ref q122, .int 0, .null])), (q122, .inl (cA123, 60, .inr (.inr (.inr (.inr (fun _ => none))))))]) [0, 1] rfl
      have hD9 := hD.sub (ws' := [(h0, .inr (0, [.int p0, .ref q122, .int 0, .null])), (q122, .inl (cA123, 60, .inr (.inr (.inr (.inr (fun _ => none))))))]) [0, 1] (by decide) rfl
      have hK9 := hK.sub (tys' := [(cA123, .object "ImageGcds$Poly")]) [0] rfl
      refine W.widen (k := 1) (n := 60) (Nat.le_of_ble_eq_true rfl) (Nat.le_of_ble_eq_true rfl) ?_
      exact W.vret hx hb hr (fun t ht hW => ⟨⟨(), rfl, trivial, _, _, _, by rw [ht]; exact hP9, va_K.moved hW.alike hK9, hD9⟩, hS.F ht⟩) hS.2.2 dG_init_41
    · skip
      refine lv_iconst (v := 3) hx hb dG_init_19 (by decide) ?_
      refine lv_goto (tgt := 24) hx hb dG_init_20 (by decide) ?_
      refine va_putF (D := (dC, dI)) (ci := 0) (v := .int 3) (ty := .int) (C := "ImageGcds") (T := TG) (N := 4) hx hb hk uG tG tG_ok nG hown hK hP hD hS 0 rfl rfl 0 (by decide) (hk _ k96) (fun _ h9 => h9) rfl hin rfl (by decide +kernel) rfl rfl (Nat.le_of_ble_eq_true rfl) dG_init_24 (fun H locs hP hD hS => ?_)
      have hP : va_P (dC, dI) cls9 [(h0, .inr (0, [.int 3, .null, .int 0, .null]))] H := hP
      have hD : va_D A [(h0, .inr (0, [.int 3, .null, .int 0, .null]))] := hD
      refine lv_aload_n hx hb dG_init_27 rfl (lv_at hl 0 rfl) ?_
      refine lv_bipush (v := 60) hx hb dG_init_28 (by decide) ?_
      refine va_newq (N' := 60) (C := "ImageGcds$Poly") hx hb hown (hk _ k97) hAO hK hP hD hS hA (by decide) (by decide) (by decide) (Nat.le_of_ble_eq_true rfl) (Nat.le_of_ble_eq_true rfl) dG_init_30 (fun q124 cA125 H hK hP hD hS => ?_)
      have hP : va_P (dC, dI) cls9 [(h0, .inr (0, [.int 3, .null, .int 0, .null])), (q124, .inl (cA125, 60, .inr (.inr (.inr (.inr (fun _ => none))))))] H := hP
      have hD : va_D A [(h0, .inr (0, [.int 3, .null, .int 0, .null])), (q124, .inl (cA125, 60, .inr (.inr (.inr (.inr (fun _ => none))))))] := hD
      have hK : va_K (dC, dI) cls9 [(cA125, .object "ImageGcds$Poly")] s := hK
      refine va_putF (D := (dC, dI)) (ci := 0) (v := .ref q124) (ty := .array (.object "ImageGcds$Poly")) (C := "ImageGcds") (T := TG) (N := 4) hx hb hk uG tG tG_ok nG hown hK hP hD hS 0 rfl rfl 1 (by decide) (hk _ k98) (fun _ h9 => h9) rfl hin rfl (by decide +kernel) rfl rfl (Nat.le_of_ble_eq_true rfl) dG_init_33 (fun H locs hP hD hS => ?_)
      have hP : va_P (dC, dI) cls9 [(h0, .inr (0, [.int 3, .ref q124, .int 0, .null])), (q124, .inl (cA125, 60, .inr (.inr (.inr (.inr (fun _ => none))))))] H := hP
      have hD : va_D A [(h0, .inr (0, [.int 3, .ref q124, .int 0, .null])), (q124, .inl (cA125, 60, .inr (.inr (.inr (.inr (fun _ => none))))))] := hD
      refine lv_aload_n hx hb dG_init_36 rfl (lv_at hl 0 rfl) ?_
      refine lv_iconst (v := 0) hx hb dG_init_37 (by decide) ?_
      refine va_put (D := (dC, dI)) (ci := 0) (v := .int 0) (ty := .int) (C := "ImageGcds") (T := TG) (N := 4) hx hb hk uG tG tG_ok nG hown hK hP hD hS 0 rfl rfl 2 (by decide) (hk _ k2) (fun _ h9 => h9) rfl (by decide +kernel) rfl rfl (Nat.le_of_ble_eq_true rfl) dG_init_38 (fun H locs hP hD hS => ?_)
      have hP : va_P (dC, dI) cls9 [(h0, .inr (0, [.int 3, .ref q124, .int 0, .null])), (q124, .inl (cA125, 60, .inr (.inr (.inr (.inr (fun _ => none))))))] H := hP
      have hD : va_D A [(h0, .inr (0, [.int 3, .ref q124, .int 0, .null])), (q124, .inl (cA125, 60, .inr (.inr (.inr (.inr (fun _ => none))))))] := hD
      have hP9 := hP.sub (ws' := [(h0, .inr (0, [.int 3, .ref q124, .int 0, .null])), (q124, .inl (cA125, 60, .inr (.inr (.inr (.inr (fun _ => none))))))]) [0, 1] rfl
      have hD9 := hD.sub (ws' := [(h0, .inr (0, [.int 3, .ref q124, .int 0, .null])), (q124, .inl (cA125, 60, .inr (.inr (.inr (.inr (fun _ => none))))))]) [0, 1] (by decide) rfl
      have hK9 := hK.sub (tys' := [(cA125, .object "ImageGcds$Poly")]) [0] rfl
      refine W.widen (k := 1) (n := 60) (Nat.le_of_ble_eq_true rfl) (Nat.le_of_ble_eq_true rfl) ?_
      exact W.vret hx hb hr (fun t ht hW => ⟨⟨(), rfl, trivial, _, _, _, by rw [ht]; exact hP9, va_K.moved hW.alike hK9, hD9⟩, hS.F ht⟩) hS.2.2 dG_init_41
  · skip
    refine lv_iconst (v := 1) hx hb dG_init_10 (by decide) ?_
    refine lv_goto (tgt := 24) hx hb dG_init_11 (by decide) ?_
    refine va_putF (D := (dC, dI)) (ci := 0) (v := .int 1) (ty := .int) (C := "ImageGcds") (T := TG) (N := 4) hx hb hk uG tG tG_ok nG hown hK hP hD hS 0 rfl rfl 0 (by decide) (hk _ k96) (fun _ h9 => h9) rfl hin rfl (by decide +kernel) rfl rfl (Nat.le_of_ble_eq_true rfl) dG_init_24 (fun H locs hP hD hS => ?_)
    have hP : va_P (dC, dI) cls9 [(h0, .inr (0, [.int 1, .null, .int 0, .null]))] H := hP
    have hD : va_D A [(h0, .inr (0, [.int 1, .null, .int 0, .null]))] := hD
    refine lv_aload_n hx hb dG_init_27 rfl (lv_at hl 0 rfl) ?_
    refine lv_bipush (v := 60) hx hb dG_init_28 (by decide) ?_
    refine va_newq (N' := 60) (C := "ImageGcds$Poly") hx hb hown (hk _ k97) hAO hK hP hD hS hA (by decide) (by decide) (by decide) (Nat.le_of_ble_eq_true rfl) (Nat.le_of_ble_eq_true rfl) dG_init_30 (fun q126 cA127 H hK hP hD hS => ?_)
    have hP : va_P (dC, dI) cls9 [(h0, .inr (0, [.int 1, .null, .int 0, .null])), (q126, .inl (cA127, 60, .inr (.inr (.inr (.inr (fun _ => none))))))] H := hP
    have hD : va_D A [(h0, .inr (0, [.int 1, .null, .int 0, .null])), (q126, .inl (cA127, 60, .inr (.inr (.inr (.inr (fun _ => none))))))] := hD
    have hK : va_K (dC, dI) cls9 [(cA127, .object "ImageGcds$Poly")] s := hK
    refine va_putF (D := (dC, dI)) (ci := 0) (v := .ref q126) (ty := .array (.object "ImageGcds$Poly")) (C := "ImageGcds") (T := TG) (N := 4) hx hb hk uG tG tG_ok nG hown hK hP hD hS 0 rfl rfl 1 (by decide) (hk _ k98) (fun _ h9 => h9) rfl hin rfl (by decide +kernel) rfl rfl (Nat.le_of_ble_eq_true rfl) dG_init_33 (fun H locs hP hD hS => ?_)
    have hP : va_P (dC, dI) cls9 [(h0, .inr (0, [.int 1, .ref q126, .int 0, .null])), (q126, .inl (cA127, 60, .inr (.inr (.inr (.inr (fun _ => none))))))] H := hP
    have hD : va_D A [(h0, .inr (0, [.int 1, .ref q126, .int 0, .null])), (q126, .inl (cA127, 60, .inr (.inr (.inr (.inr (fun _ => none))))))] := hD
    refine lv_aload_n hx hb dG_init_36 rfl (lv_at hl 0 rfl) ?_
    refine lv_iconst (v := 0) hx hb dG_init_37 (by decide) ?_
    refine va_put (D := (dC, dI)) (ci := 0) (v := .int 0) (ty := .int) (C := "ImageGcds") (T := TG) (N := 4) hx hb hk uG tG tG_ok nG hown hK hP hD hS 0 rfl rfl 2 (by decide) (hk _ k2) (fun _ h9 => h9) rfl (by decide +kernel) rfl rfl (Nat.le_of_ble_eq_true rfl) dG_init_38 (fun H locs hP hD hS => ?_)
    have hP : va_P (dC, dI) cls9 [(h0, .inr (0, [.int 1, .ref q126, .int 0, .null])), (q126, .inl (cA127, 60, .inr (.inr (.inr (.inr (fun _ => none))))))] H := hP
    have hD : va_D A [(h0, .inr (0, [.int 1, .ref q126, .int 0, .null])), (q126, .inl (cA127, 60, .inr (.inr (.inr (.inr (fun _ => none))))))] := hD
    have hP9 := hP.sub (ws' := [(h0, .inr (0, [.int 1, .ref q126, .int 0, .null])), (q126, .inl (cA127, 60, .inr (.inr (.inr (.inr (fun _ => none))))))]) [0, 1] rfl
    have hD9 := hD.sub (ws' := [(h0, .inr (0, [.int 1, .ref q126, .int 0, .null])), (q126, .inl (cA127, 60, .inr (.inr (.inr (.inr (fun _ => none))))))]) [0, 1] (by decide) rfl
    have hK9 := hK.sub (tys' := [(cA127, .object "ImageGcds$Poly")]) [0] rfl
    refine W.widen (k := 1) (n := 60) (Nat.le_of_ble_eq_true rfl) (Nat.le_of_ble_eq_true rfl) ?_
    exact W.vret hx hb hr (fun t ht hW => ⟨⟨(), rfl, trivial, _, _, _, by rw [ht]; exact hP9, va_K.moved hW.alike hK9, hD9⟩, hS.F ht⟩) hS.2.2 dG_init_41
set_option maxHeartbeats 4000000 in
set_option maxRecDepth 100000 in
theorem cP_init (l : Launch) (dC : Nat → ClassId) (dI : Nat → Nat → Nat) (h0 : Nat) (sz : Nat) : Met l yP_init wP_init ({ frames := 1, cells := 2, slots := 0, locals := 20 }) (va_Pc [.ref h0, .int 0] (fun U => U.heap.size = sz ∧ va_P (dC, dI) cls9 [(h0, .inr (1, [.int 0, .null, .null]))] U.heap ∧ va_K (dC, dI) cls9 [] U)) (va_Qv (fun _ : Unit => True) (fun _ t => pI9 (va_A [(h0, .inr (1, [.int 0, .null, .null]))] sz) dC dI h0 t) (va_A [(h0, .inr (1, [.int 0, .null, .null]))] sz)) 2 0 (va_A [(h0, .inr (1, [.int 0, .null, .null]))] sz) := by
  refine Met.ofW (cc := bP_init) (maxL := 3) (ret := none) (by decide) rfl ?_
  intro p e s m args below meth c s₁ B hml hv
  obtain ⟨rfl, hsz, hP, hK⟩ := hv
  have hx := B.exec
  have hb := B.bytes
  have hr := B.returns
  have hts := atoms_spec (ws := wP_init) B.pre
  have hk : ∀ w ∈ W0, w.before _ s = true := fun w h => hts w (List.mem_cons_of_mem _ h)
  have hown : s.vm.findClass "ImageGcds$Poly" = some m.cls := findClass_of_methodNamed B.named
  have hlocks := B.notSynchronized
  have hin : meth.name = "<init>" := (name_of_methodNamed B.named B.method).1
  subst hsz
  have hD : va_D (va_A [(h0, .inr (1, [.int 0, .null, .null]))] s.heap.size) [(h0, .inr (1, [.int 0, .null, .null]))] := mD.self
  generalize hAe : va_A [(h0, .inr (1, [.int 0, .null, .null]))] s.heap.size = A at hD ⊢
  have hA : ∀ q : Nat, s.heap.size ≤ q → A q := fun q h => by rw [← hAe]; exact Or.inr h
  have hS : va_S A s.heap s.heap [] := va_S.rf
  have hP : va_P (dC, dI) cls9 [(h0, .inr (1, [.int 0, .null, .null]))] s.heap := hP
  have hl := lv_entry ([.ref h0, .int 0]) (n := 3) (Nat.le_of_ble_eq_true rfl)
  rw [lg_entry_eq]
  generalize (lg_sl ([.ref h0, .int 0]) ++ List.replicate (3 - (lg_sl ([.ref h0, .int 0])).length) Slot.unset).toArray = ls at hl ⊢
  have hl : lv_has ls 3 [(0, .ref h0), (1, .int 0)] := hl
  refine lv_aload_n hx hb dP_init_0 rfl (lv_at hl 0 rfl) ?_
  refine W.objInit hx hb hown (hk _ k120) (hk _ k94) (hk _ k95) rfl (by rw [hml]; exact hl.1) rfl dP_init_1 (Nat.le_of_ble_eq_true rfl) (Nat.le_of_ble_eq_true rfl) ?_
  refine W.eq (g2 := F0 m 4 ls []) rfl ?_
  refine lv_iload_n hx hb dP_init_4 rfl (lv_at hl 1 rfl) ?_
  refine lv_if_ge (tgt := 12) hx hb dP_init_5 (by decide) (fun c166 => ?_) (fun c166 => ?_)
  · skip
    refine lv_iload_n hx hb dP_init_12 rfl (lv_at hl 1 rfl) ?_
    refine lv_istore_n (lv' := [(2, .int 0), (0, .ref h0), (1, .int 0)]) hx hb dP_init_13 rfl hl (by decide) rfl (fun ls hl => ?_)
    refine lv_aload_n hx hb dP_init_14 rfl (lv_at hl 1 rfl) ?_
    refine lv_iconst (v := 0) hx hb dP_init_15 (by decide) ?_
    refine va_put (D := (dC, dI)) (ci := 1) (v := .int 0) (ty := .int) (C := "ImageGcds$Poly") (T := TP) (N := 3) hx hb hk uP tP tP_ok nP hown hK hP hD hS 0 rfl rfl 0 (by decide) (hk _ k121) (fun _ h9 => h9) rfl (by decide +kernel) rfl rfl (Nat.le_of_ble_eq_true rfl) dP_init_16 (fun H locs hP hD hS => ?_)
    have hP : va_P (dC, dI) cls9 [(h0, .inr (1, [.int 0, .null, .null]))] H := hP
    have hD : va_D A [(h0, .inr (1, [.int 0, .null, .null]))] := hD
    refine lv_aload_n hx hb dP_init_19 rfl (lv_at hl 1 rfl) ?_
    refine lv_iload_n hx hb dP_init_20 rfl (lv_at hl 0 rfl) ?_
    refine va_newa (ty := .int) (atype := .int) (a0 := (0, .inl (fun _ => 0))) (N' := 0) hx hb (hk _ k101) rfl hK hP hD hS hA (fun cA => vp_cell_i cA _ _) (by decide +kernel) (by decide +kernel) (by decide +kernel) (Nat.le_of_ble_eq_true rfl) (Nat.le_of_ble_eq_true rfl) dP_init_21 (fun q167 cA168 H hK hP hD hS => ?_)
    have hP : va_P (dC, dI) cls9 [(h0, .inr (1, [.int 0, .null, .null])), (q167, .inl (cA168, 0, .inl (fun _ => 0)))] H := hP
    have hD : va_D A [(h0, .inr (1, [.int 0, .null, .null])), (q167, .inl (cA168, 0, .inl (fun _ => 0)))] := hD
    have hK : va_K (dC, dI) cls9 [(cA168, .int)] s := hK
    refine va_put (D := (dC, dI)) (ci := 1) (v := .ref q167) (ty := .array .int) (C := "ImageGcds$Poly") (T := TP) (N := 3) hx hb hk uP tP tP_ok nP hown hK hP hD hS 0 rfl rfl 1 (by decide) (hk _ k122) (fun _ h9 => h9) rfl (by decide +kernel) rfl rfl (Nat.le_of_ble_eq_true rfl) dP_init_23 (fun H locs hP hD hS => ?_)
    have hP : va_P (dC, dI) cls9 [(h0, .inr (1, [.int 0, .ref q167, .null])), (q167, .inl (cA168, 0, .inl (fun _ => 0)))] H := hP
    have hD : va_D A [(h0, .inr (1, [.int 0, .ref q167, .null])), (q167, .inl (cA168, 0, .inl (fun _ => 0)))] := hD
    refine lv_aload_n hx hb dP_init_26 rfl (lv_at hl 1 rfl) ?_
    refine lv_iload_n hx hb dP_init_27 rfl (lv_at hl 0 rfl) ?_
    refine va_newa (ty := .int) (atype := .int) (a0 := (0, .inl (fun _ => 0))) (N' := 0) hx hb (hk _ k101) rfl hK hP hD hS hA (fun cA => vp_cell_i cA _ _) (by decide +kernel) (by decide +kernel) (by decide +kernel) (Nat.le_of_ble_eq_true rfl) (Nat.le_of_ble_eq_true rfl) dP_init_28 (fun q169 cA170 H hK hP hD hS => ?_)
    have hP : va_P (dC, dI) cls9 [(h0, .inr (1, [.int 0, .ref q167, .null])), (q167, .inl (cA168, 0, .inl (fun _ => 0))), (q169, .inl (cA170, 0, .inl (fun _ => 0)))] H := hP
    have hD : va_D A [(h0, .inr (1, [.int 0, .ref q167, .null])), (q167, .inl (cA168, 0, .inl (fun _ => 0))), (q169, .inl (cA170, 0, .inl (fun _ => 0)))] := hD
    have hK : va_K (dC, dI) cls9 [(cA168, .int), (cA170, .int)] s := hK
    refine va_put (D := (dC, dI)) (ci := 1) (v := .ref q169) (ty := .array .int) (C := "ImageGcds$Poly") (T := TP) (N := 3) hx hb hk uP tP tP_ok nP hown hK hP hD hS 0 rfl rfl 2 (by decide) (hk _ k123) (fun _ h9 => h9) rfl (by decide +kernel) rfl rfl (Nat.le_of_ble_eq_true rfl) dP_init_30 (fun H locs hP hD hS => ?_)
    have hP : va_P (dC, dI) cls9 [(h0, .inr (1, [.int 0, .ref q167, .ref q169])), (q167, .inl (cA168, 0, .inl (fun _ => 0))), (q169, .inl (cA170, 0, .inl (fun _ => 0)))] H := hP
    have hD : va_D A [(h0, .inr (1, [.int 0, .ref q167, .ref q169])), (q167, .inl (cA168, 0, .inl (fun _ => 0))), (q169, .inl (cA170, 0, .inl (fun _ => 0)))] := hD
    have hP9 := hP.sub (ws' := [(h0, .inr (1, [.int 0, .ref q167, .ref q169]))]) [0] rfl
    have hD9 := hD.sub (ws' := [(h0, .inr (1, [.int 0, .ref q167, .ref q169]))]) [0] (by decide) rfl
    have hK9 := hK.sub (tys' := []) [] rfl
    refine W.widen (k := 2) (n := 0) (Nat.le_of_ble_eq_true rfl) (Nat.le_of_ble_eq_true rfl) ?_
    exact W.vret hx hb hr (fun t ht hW => ⟨⟨(), rfl, trivial, _, _, by rw [ht]; exact hP9, va_K.moved hW.alike hK9, hD9⟩, hS.F ht⟩) hS.2.2 dP_init_33
  · skip
    exact absurd c166 (by decide)
set_option maxHeartbeats 4000000 in
set_option maxRecDepth 100000 in
theorem cG_count (l : Launch) (dC : Nat → ClassId) (dI : Nat → Nat → Nat) (h0 : Nat) (le : Int32) (qp sa : Nat) : Met l yG_count wG_count ({ frames := 0, cells := 0, slots := 0, locals := 0 }) (va_Pc [.ref h0] (gU dC dI h0 le qp sa)) (vp_Si (fun r => r = 0)) 0 0 (fun _ => False) := by
  refine Met.ofW (cc := bG_count) (maxL := 1) (ret := (some .int)) (by decide) rfl ?_
  intro p e s m args below meth c s₁ B hml hv
  obtain ⟨rfl, hU⟩ := hv
  have hx := B.exec
  have hb := B.bytes
  have hr := B.returns
  have hts := atoms_spec (ws := wG_count) B.pre
  have hk : ∀ w ∈ W0, w.before _ s = true := fun w h => hts w (List.mem_cons_of_mem _ h)
  have hown : s.vm.findClass "ImageGcds" = some m.cls := findClass_of_methodNamed B.named
  have hlocks := B.notSynchronized
  have hl := lv_entry ([.ref h0]) (n := 1) (Nat.le_of_ble_eq_true rfl)
  rw [lg_entry_eq]
  generalize (lg_sl ([.ref h0]) ++ List.replicate (1 - (lg_sl ([.ref h0])).length) Slot.unset).toArray = ls at hl ⊢
  have hl : lv_has ls 1 [(0, .ref h0)] := hl
  refine lv_aload_n hx hb dG_count_0 rfl (lv_at hl 0 rfl) ?_
  refine va_get (D := (dC, dI)) (ci := 0) (v := .int 0) (C := "ImageGcds") (T := TG) (N := 4) hx hb hk uG hown hU.2.1 hU.1 0 rfl rfl 2 (by decide) (hk _ k2) (fun _ h9 => h9) rfl dG_count_1 ?_
  exact W.iret (v := 0) hx hb hr (fun t ht hW => ⟨_, rfl, rfl, ht⟩) (fun q h => nomatch h) dG_count_4
set_option maxHeartbeats 4000000 in
set_option maxRecDepth 100000 in
theorem cL_cell (l : Launch) (b L : Nat) (xs : Nat → Int32) (hL : L < 2 ^ 31) : Met l yL_cell wL_cell ({ frames := 0, cells := 0, slots := 0, locals := 0 }) (va_Pc [.ref b, .int 0] (fun U => va_X b L xs U U.heap ∧ b < U.heap.size)) (vp_Si (fun _ => True)) 0 0 (fun _ => False) := by
  refine Met.ofW (cc := bL_cell) (maxL := 2) (ret := (some .int)) (by decide) rfl ?_
  intro p e s m args below meth c s₁ B hml hv
  obtain ⟨rfl, hX, hbl⟩ := hv
  have hx := B.exec
  have hb := B.bytes
  have hr := B.returns
  have hts := atoms_spec (ws := wL_cell) B.pre
  have hk : ∀ w ∈ W0, w.before _ s = true := fun w h => hts w (List.mem_cons_of_mem _ h)
  have hown : s.vm.findClass "ImageGcdsLaw" = some m.cls := findClass_of_methodNamed B.named
  have hlocks := B.notSynchronized
  have hl := lv_entry ([.ref b, .int 0]) (n := 2) (Nat.le_of_ble_eq_true rfl)
  rw [lg_entry_eq]
  generalize (lg_sl ([.ref b, .int 0]) ++ List.replicate (2 - (lg_sl ([.ref b, .int 0])).length) Slot.unset).toArray = ls at hl ⊢
  have hl : lv_has ls 2 [(0, .ref b), (1, .int 0)] := hl
  have hS : va_S (fun q : Nat => s.heap.size ≤ q) s.heap s.heap [] := va_S.rf
  have hbA : ¬ (fun q : Nat => s.heap.size ≤ q) b := Nat.not_le.mpr hbl
  refine lv_iload_n hx hb dL_cell_0 rfl (lv_at hl 1 rfl) ?_
  refine lv_aload_n hx hb dL_cell_1 rfl (lv_at hl 0 rfl) ?_
  refine va_slen hx hb hX hbl hbA hS dL_cell_2 ?_
  refine lv_icmp_ge (tgt := 12) hx hb dL_cell_3 (by decide) (fun c171 => ?_) (fun c171 => ?_)
  · skip
    refine lv_iconst (v := 0) hx hb dL_cell_12 (by decide) ?_
    exact W.iret (v := 0) hx hb hr (fun t ht hW => ⟨_, rfl, trivial, ht⟩) (fun q h => nomatch h) dL_cell_13
  · skip
    refine lv_aload_n hx hb dL_cell_6 rfl (lv_at hl 0 rfl) ?_
    refine lv_iload_n hx hb dL_cell_7 rfl (lv_at hl 1 rfl) ?_
    have hL0 : 0 < L := by
      rcases Nat.eq_zero_or_pos L with q | q
      · subst q; exact absurd (by decide) c171
      · exact q
    have hin : vp_in 0 L := by rw [← nI_0]; exact vp_in_nI hL0 hL
    refine va_sld hx hb hX hbl hbA hS hin dL_cell_8 ?_
    refine lv_topi (fun v172 ev172 => ?_)
    refine lv_goto (tgt := 13) hx hb dL_cell_9 (by decide) ?_
    exact W.iret (v := v172) hx hb hr (fun t ht hW => ⟨_, rfl, trivial, ht⟩) (fun q h => nomatch h) dL_cell_13
end
section
set_option maxHeartbeats 4000000 in
set_option maxRecDepth 100000 in
theorem cM_init (l : Launch) (dC : Nat → ClassId) (dI : Nat → Nat → Nat) (h0 : Nat) (sz : Nat) (p0 : Int32) : Met l yM_init wM_init ({ frames := 1, cells := 18, slots := 344644, locals := 20 }) (va_Pc [.ref h0, .int p0] (fun U => U.heap.size = sz ∧ va_P (dC, dI) cls9 [(h0, .inr (2, [.int 0, .int 0, .int 0, .null, .null, .null, .null, .null, .int 0, .int 0, .int 0, .null, .null, .null, .null, .null, .null, .null, .null, .null, .null, .null, .null, .null, .int 0]))] U.heap ∧ va_K (dC, dI) cls9 [] U)) (va_Qv (fun _ : Unit => True) (fun _ t => mI9 (va_A [(h0, .inr (2, [.int 0, .int 0, .int 0, .null, .null, .null, .null, .null, .int 0, .int 0, .int 0, .null, .null, .null, .null, .null, .null, .null, .null, .null, .null, .null, .null, .null, .int 0]))] sz) dC dI h0 t) (va_A [(h0, .inr (2, [.int 0, .int 0, .int 0, .null, .null, .null, .null, .null, .int 0, .int 0, .int 0, .null, .null, .null, .null, .null, .null, .null, .null, .null, .null, .null, .null, .null, .int 0]))] sz)) 18 344644 (va_A [(h0, .inr (2, [.int 0, .int 0, .int 0, .null, .null, .null, .null, .null, .int 0, .int 0, .int 0, .null, .null, .null, .null, .null, .null, .null, .null, .null, .null, .null, .null, .null, .int 0]))] sz) := by
  refine Met.ofW (cc := bM_init) (maxL := 2) (ret := none) (by decide) rfl ?_
  intro p e s m args below meth c s₁ B hml hv
  obtain ⟨rfl, hsz, hP, hK⟩ := hv
  have hx := B.exec
  have hb := B.bytes
  have hr := B.returns
  have hts := atoms_spec (ws := wM_init) B.pre
  have hk : ∀ w ∈ W0, w.before _ s = true := fun w h => hts w (List.mem_cons_of_mem _ h)
  have hown : s.vm.findClass "ImageGcdsModel" = some m.cls := findClass_of_methodNamed B.named
  have hlocks := B.notSynchronized
  have hin : meth.name = "<init>" := (name_of_methodNamed B.named B.method).1
  subst hsz
  have hD : va_D (va_A [(h0, .inr (2, [.int 0, .int 0, .int 0, .null, .null, .null, .null, .null, .int 0, .int 0, .int 0, .null, .null, .null, .null, .null, .null, .null, .null, .null, .null, .null, .null, .null, .int 0]))] s.heap.size) [(h0, .inr (2, [.int 0, .int 0, .int 0, .null, .null, .null, .null, .null, .int 0, .int 0, .int 0, .null, .null, .null, .null, .null, .null, .null, .null, .null, .null, .null, .null, .null, .int 0]))] := mD.self
  generalize hAe : va_A [(h0, .inr (2, [.int 0, .int 0, .int 0, .null, .null, .null, .null, .null, .int 0, .int 0, .int 0, .null, .null, .null, .null, .null, .null, .null, .null, .null, .null, .null, .null, .null, .int 0]))] s.heap.size = A at hD ⊢
  have hA : ∀ q : Nat, s.heap.size ≤ q → A q := fun q h => by rw [← hAe]; exact Or.inr h
  have hS : va_S A s.heap s.heap [] := va_S.rf
  have hP : va_P (dC, dI) cls9 [(h0, .inr (2, [.int 0, .int 0, .int 0, .null, .null, .null, .null, .null, .int 0, .int 0, .int 0, .null, .null, .null, .null, .null, .null, .null, .null, .null, .null, .null, .null, .null, .int 0]))] s.heap := hP
  have hl := lv_entry ([.ref h0, .int p0]) (n := 2) (Nat.le_of_ble_eq_true rfl)
  rw [lg_entry_eq]
  generalize (lg_sl ([.ref h0, .int p0]) ++ List.replicate (2 - (lg_sl ([.ref h0, .int p0])).length) Slot.unset).toArray = ls at hl ⊢
  have hl : lv_has ls 2 [(0, .ref h0), (1, .int p0)] := hl
  refine lv_aload_n hx hb dM_init_0 rfl (lv_at hl 0 rfl) ?_
  refine W.objInit hx hb hown (hk _ k99) (hk _ k94) (hk _ k95) rfl (by rw [hml]; exact hl.1) rfl dM_init_1 (Nat.le_of_ble_eq_true rfl) (Nat.le_of_ble_eq_true rfl) ?_
  refine W.eq (g2 := F0 m 4 ls []) rfl ?_
  refine lv_aload_n hx hb dM_init_4 rfl (lv_at hl 0 rfl) ?_
  refine lv_ldc (v := 290816) hx hb hown (hk _ k100) dM_init_5 ?_
  refine va_newa (ty := .int) (atype := .int) (a0 := (290816, .inl (fun _ => 0))) (N' := 290816) hx hb (hk _ k101) rfl hK hP hD hS hA (fun cA => vp_cell_i cA _ _) (by decide +kernel) (by decide +kernel) (by decide +kernel) (Nat.le_of_ble_eq_true rfl) (Nat.le_of_ble_eq_true rfl) dM_init_7 (fun q128 cA129 H hK hP hD hS => ?_)
  have hP : va_P (dC, dI) cls9 [(h0, .inr (2, [.int 0, .int 0, .int 0, .null, .null, .null, .null, .null, .int 0, .int 0, .int 0, .null, .null, .null, .null, .null, .null, .null, .null, .null, .null, .null, .null, .null, .int 0])), (q128, .inl (cA129, 290816, .inl (fun _ => 0)))] H := hP
  have hD : va_D A [(h0, .inr (2, [.int 0, .int 0, .int 0, .null, .null, .null, .null, .null, .int 0, .int 0, .int 0, .null, .null, .null, .null, .null, .null, .null, .null, .null, .null, .null, .null, .null, .int 0])), (q128, .inl (cA129, 290816, .inl (fun _ => 0)))] := hD
  have hK : va_K (dC, dI) cls9 [(cA129, .int)] s := hK
  refine va_putF (D := (dC, dI)) (ci := 2) (v := .ref q128) (ty := .array .int) (C := "ImageGcdsModel") (T := TM) (N := 25) hx hb hk uM tM tM_ok nM hown hK hP hD hS 0 rfl rfl 3 (by decide) (hk _ k102) (fun _ h9 => h9) rfl hin rfl (by decide +kernel) rfl rfl (Nat.le_of_ble_eq_true rfl) dM_init_9 (fun H locs hP hD hS => ?_)
  have hP : va_P (dC, dI) cls9 [(h0, .inr (2, [.int 0, .int 0, .int 0, .ref q128, .null, .null, .null, .null, .int 0, .int 0, .int 0, .null, .null, .null, .null, .null, .null, .null, .null, .null, .null, .null, .null, .null, .int 0])), (q128, .inl (cA129, 290816, .inl (fun _ => 0)))] H := hP
  have hD : va_D A [(h0, .inr (2, [.int 0, .int 0, .int 0, .ref q128, .null, .null, .null, .null, .int 0, .int 0, .int 0, .null, .null, .null, .null, .null, .null, .null, .null, .null, .null, .null, .null, .null, .int 0])), (q128, .inl (cA129, 290816, .inl (fun _ => 0)))] := hD
  refine lv_aload_n hx hb dM_init_12 rfl (lv_at hl 0 rfl) ?_
  refine lv_sipush (v := 16384) hx hb dM_init_13 (by decide) ?_
  refine va_newa (ty := .int) (atype := .int) (a0 := (16384, .inl (fun _ => 0))) (N' := 16384) hx hb (hk _ k101) rfl hK hP hD hS hA (fun cA => vp_cell_i cA _ _) (by decide +kernel) (by decide +kernel) (by decide +kernel) (Nat.le_of_ble_eq_true rfl) (Nat.le_of_ble_eq_true rfl) dM_init_16 (fun q130 cA131 H hK hP hD hS => ?_)
  have hP : va_P (dC, dI) cls9 [(h0, .inr (2, [.int 0, .int 0, .int 0, .ref q128, .null, .null, .null, .null, .int 0, .int 0, .int 0, .null, .null, .null, .null, .null, .null, .null, .null, .null, .null, .null, .null, .null, .int 0])), (q128, .inl (cA129, 290816, .inl (fun _ => 0))), (q130, .inl (cA131, 16384, .inl (fun _ => 0)))] H := hP
  have hD : va_D A [(h0, .inr (2, [.int 0, .int 0, .int 0, .ref q128, .null, .null, .null, .null, .int 0, .int 0, .int 0, .null, .null, .null, .null, .null, .null, .null, .null, .null, .null, .null, .null, .null, .int 0])), (q128, .inl (cA129, 290816, .inl (fun _ => 0))), (q130, .inl (cA131, 16384, .inl (fun _ => 0)))] := hD
  have hK : va_K (dC, dI) cls9 [(cA129, .int), (cA131, .int)] s := hK
  refine va_putF (D := (dC, dI)) (ci := 2) (v := .ref q130) (ty := .array .int) (C := "ImageGcdsModel") (T := TM) (N := 25) hx hb hk uM tM tM_ok nM hown hK hP hD hS 0 rfl rfl 4 (by decide) (hk _ k103) (fun _ h9 => h9) rfl hin rfl (by decide +kernel) rfl rfl (Nat.le_of_ble_eq_true rfl) dM_init_18 (fun H locs hP hD hS => ?_)
  have hP : va_P (dC, dI) cls9 [(h0, .inr (2, [.int 0, .int 0, .int 0, .ref q128, .ref q130, .null, .null, .null, .int 0, .int 0, .int 0, .null, .null, .null, .null, .null, .null, .null, .null, .null, .null, .null, .null, .null, .int 0])), (q128, .inl (cA129, 290816, .inl (fun _ => 0))), (q130, .inl (cA131, 16384, .inl (fun _ => 0)))] H := hP
  have hD : va_D A [(h0, .inr (2, [.int 0, .int 0, .int 0, .ref q128, .ref q130, .null, .null, .null, .int 0, .int 0, .int 0, .null, .null, .null, .null, .null, .null, .null, .null, .null, .null, .null, .null, .null, .int 0])), (q128, .inl (cA129, 290816, .inl (fun _ => 0))), (q130, .inl (cA131, 16384, .inl (fun _ => 0)))] := hD
  refine lv_aload_n hx hb dM_init_21 rfl (lv_at hl 0 rfl) ?_
  refine lv_sipush (v := 128) hx hb dM_init_22 (by decide) ?_
  refine va_newa (ty := .int) (atype := .int) (a0 := (128, .inl (fun _ => 0))) (N' := 128) hx hb (hk _ k101) rfl hK hP hD hS hA (fun cA => vp_cell_i cA _ _) (by decide +kernel) (by decide +kernel) (by decide +kernel) (Nat.le_of_ble_eq_true rfl) (Nat.le_of_ble_eq_true rfl) dM_init_25 (fun q132 cA133 H hK hP hD hS => ?_)
  have hP : va_P (dC, dI) cls9 [(h0, .inr (2, [.int 0, .int 0, .int 0, .ref q128, .ref q130, .null, .null, .null, .int 0, .int 0, .int 0, .null, .null, .null, .null, .null, .null, .null, .null, .null, .null, .null, .null, .null, .int 0])), (q128, .inl (cA129, 290816, .inl (fun _ => 0))), (q130, .inl (cA131, 16384, .inl (fun _ => 0))), (q132, .inl (cA133, 128, .inl (fun _ => 0)))] H := hP
  have hD : va_D A [(h0, .inr (2, [.int 0, .int 0, .int 0, .ref q128, .ref q130, .null, .null, .null, .int 0, .int 0, .int 0, .null, .null, .null, .null, .null, .null, .null, .null, .null, .null, .null, .null, .null, .int 0])), (q128, .inl (cA129, 290816, .inl (fun _ => 0))), (q130, .inl (cA131, 16384, .inl (fun _ => 0))), (q132, .inl (cA133, 128, .inl (fun _ => 0)))] := hD
  have hK : va_K (dC, dI) cls9 [(cA129, .int), (cA131, .int), (cA133, .int)] s := hK
  refine va_putF (D := (dC, dI)) (ci := 2) (v := .ref q132) (ty := .array .int) (C := "ImageGcdsModel") (T := TM) (N := 25) hx hb hk uM tM tM_ok nM hown hK hP hD hS 0 rfl rfl 5 (by decide) (hk _ k104) (fun _ h9 => h9) rfl hin rfl (by decide +kernel) rfl rfl (Nat.le_of_ble_eq_true rfl) dM_init_27 (fun H locs hP hD hS => ?_)
  have hP : va_P (dC, dI) cls9 [(h0, .inr (2, [.int 0, .int 0, .int 0, .ref q128, .ref q130, .ref q132, .null, .null, .int 0, .int 0, .int 0, .null, .null, .null, .null, .null, .null, .null, .null, .null, .null, .null, .null, .null, .int 0])), (q128, .inl (cA129, 290816, .inl (fun _ => 0))), (q130, .inl (cA131, 16384, .inl (fun _ => 0))), (q132, .inl (cA133, 128, .inl (fun _ => 0)))] H := hP
  have hD : va_D A [(h0, .inr (2, [.int 0, .int 0, .int 0, .ref q128, .ref q130, .ref q132, .null, .null, .int 0, .int 0, .int 0, .null, .null, .null, .null, .null, .null, .null, .null, .null, .null, .null, .null, .null, .int 0])), (q128, .inl (cA129, 290816, .inl (fun _ => 0))), (q130, .inl (cA131, 16384, .inl (fun _ => 0))), (q132, .inl (cA133, 128, .inl (fun _ => 0)))] := hD
  refine lv_aload_n hx hb dM_init_30 rfl (lv_at hl 0 rfl) ?_
  refine lv_sipush (v := 128) hx hb dM_init_31 (by decide) ?_
  refine va_newa (ty := .int) (atype := .int) (a0 := (128, .inl (fun _ => 0))) (N' := 128) hx hb (hk _ k101) rfl hK hP hD hS hA (fun cA => vp_cell_i cA _ _) (by decide +kernel) (by decide +kernel) (by decide +kernel) (Nat.le_of_ble_eq_true rfl) (Nat.le_of_ble_eq_true rfl) dM_init_34 (fun q134 cA135 H hK hP hD hS => ?_)
  have hP : va_P (dC, dI) cls9 [(h0, .inr (2, [.int 0, .int 0, .int 0, .ref q128, .ref q130, .ref q132, .null, .null, .int 0, .int 0, .int 0, .null, .null, .null, .null, .null, .null, .null, .null, .null, .null, .null, .null, .null, .int 0])), (q128, .inl (cA129, 290816, .inl (fun _ => 0))), (q130, .inl (cA131, 16384, .inl (fun _ => 0))), (q132, .inl (cA133, 128, .inl (fun _ => 0))), (q134, .inl (cA135, 128, .inl (fun _ => 0)))] H := hP
  have hD : va_D A [(h0, .inr (2, [.int 0, .int 0, .int 0, .ref q128, .ref q130, .ref q132, .null, .null, .int 0, .int 0, .int 0, .null, .null, .null, .null, .null, .null, .null, .null, .null, .null, .null, .null, .null, .int 0])), (q128, .inl (cA129, 290816, .inl (fun _ => 0))), (q130, .inl (cA131, 16384, .inl (fun _ => 0))), (q132, .inl (cA133, 128, .inl (fun _ => 0))), (q134, .inl (cA135, 128, .inl (fun _ => 0)))] := hD
  have hK : va_K (dC, dI) cls9 [(cA129, .int), (cA131, .int), (cA133, .int), (cA135, .int)] s := hK
  refine va_putF (D := (dC, dI)) (ci := 2) (v := .ref q134) (ty := .array .int) (C := "ImageGcdsModel") (T := TM) (N := 25) hx hb hk uM tM tM_ok nM hown hK hP hD hS 0 rfl rfl 6 (by decide) (hk _ k105) (fun _ h9 => h9) rfl hin rfl (by decide +kernel) rfl rfl (Nat.le_of_ble_eq_true rfl) dM_init_36 (fun H locs hP hD hS => ?_)
  have hP : va_P (dC, dI) cls9 [(h0, .inr (2, [.int 0, .int 0, .int 0, .ref q128, .ref q130, .ref q132, .ref q134, .null, .int 0, .int 0, .int 0, .null, .null, .null, .null, .null, .null, .null, .null, .null, .null, .null, .null, .null, .int 0])), (q128, .inl (cA129, 290816, .inl (fun _ => 0))), (q130, .inl (cA131, 16384, .inl (fun _ => 0))), (q132, .inl (cA133, 128, .inl (fun _ => 0))), (q134, .inl (cA135, 128, .inl (fun _ => 0)))] H := hP
  have hD : va_D A [(h0, .inr (2, [.int 0, .int 0, .int 0, .ref q128, .ref q130, .ref q132, .ref q134, .null, .int 0, .int 0, .int 0, .null, .null, .null, .null, .null, .null, .null, .null, .null, .null, .null, .null, .null, .int 0])), (q128, .inl (cA129, 290816, .inl (fun _ => 0))), (q130, .inl (cA131, 16384, .inl (fun _ => 0))), (q132, .inl (cA133, 128, .inl (fun _ => 0))), (q134, .inl (cA135, 128, .inl (fun _ => 0)))] := hD
  refine lv_aload_n hx hb dM_init_39 rfl (lv_at hl 0 rfl) ?_
  refine lv_sipush (v := 128) hx hb dM_init_40 (by decide) ?_
  refine va_newa (ty := .int) (atype := .int) (a0 := (128, .inl (fun _ => 0))) (N' := 128) hx hb (hk _ k101) rfl hK hP hD hS hA (fun cA => vp_cell_i cA _ _) (by decide +kernel) (by decide +kernel) (by decide +kernel) (Nat.le_of_ble_eq_true rfl) (Nat.le_of_ble_eq_true rfl) dM_init_43 (fun q136 cA137 H hK hP hD hS => ?_)
  have hP : va_P (dC, dI) cls9 [(h0, .inr (2, [.int 0, .int 0, .int 0, .ref q128, .ref q130, .ref q132, .ref q134, .null, .int 0, .int 0, .int 0, .null, .null, .null, .null, .null, .null, .null, .null, .null, .null, .null, .null, .null, .int 0])), (q128, .inl (cA129, 290816, .inl (fun _ => 0))), (q130, .inl (cA131, 16384, .inl (fun _ => 0))), (q132, .inl (cA133, 128, .inl (fun _ => 0))), (q134, .inl (cA135, 128, .inl (fun _ => 0))), (q136, .inl (cA137, 128, .inl (fun _ => 0)))] H := hP
  have hD : va_D A [(h0, .inr (2, [.int 0, .int 0, .int 0, .ref q128, .ref q130, .ref q132, .ref q134, .null, .int 0, .int 0, .int 0, .null, .null, .null, .null, .null, .null, .null, .null, .null, .null, .null, .null, .null, .int 0])), (q128, .inl (cA129, 290816, .inl (fun _ => 0))), (q130, .inl (cA131, 16384, .inl (fun _ => 0))), (q132, .inl (cA133, 128, .inl (fun _ => 0))), (q134, .inl (cA135, 128, .inl (fun _ => 0))), (q136, .inl (cA137, 128, .inl (fun _ => 0)))] := hD
  have hK : va_K (dC, dI) cls9 [(cA129, .int), (cA131, .int), (cA133, .int), (cA135, .int), (cA137, .int)] s := hK
  refine va_putF (D := (dC, dI)) (ci := 2) (v := .ref q136) (ty := .array .int) (C := "ImageGcdsModel") (T := TM) (N := 25) hx hb hk uM tM tM_ok nM hown hK hP hD hS 0 rfl rfl 7 (by decide) (hk _ k106) (fun _ h9 => h9) rfl hin rfl (by decide +kernel) rfl rfl (Nat.le_of_ble_eq_true rfl) dM_init_45 (fun H locs hP hD hS => ?_)
  have hP : va_P (dC, dI) cls9 [(h0, .inr (2, [.int 0, .int 0, .int 0, .ref q128, .ref q130, .ref q132, .ref q134, .ref q136, .int 0, .int 0, .int 0, .null, .null, .null, .null, .null, .null, .null, .null, .null, .null, .null, .null, .null, .int 0])), (q128, .inl (cA129, 290816, .inl (fun _ => 0))), (q130, .inl (cA131, 16384, .inl (fun _ => 0))), (q132, .inl (cA133, 128, .inl (fun _ => 0))), (q134, .inl (cA135, 128, .inl (fun _ => 0))), (q136, .inl (cA137, 128, .inl (fun _ => 0)))] H := hP
  have hD : va_D A [(h0, .inr (2, [.int 0, .int 0, .int 0, .ref q128, .ref q130, .ref q132, .ref q134, .ref q136, .int 0, .int 0, .int 0, .null, .null, .null, .null, .null, .null, .null, .null, .null, .null, .null, .null, .null, .int 0])), (q128, .inl (cA129, 290816, .inl (fun _ => 0))), (q130, .inl (cA131, 16384, .inl (fun _ => 0))), (q132, .inl (cA133, 128, .inl (fun _ => 0))), (q134, .inl (cA135, 128, .inl (fun _ => 0))), (q136, .inl (cA137, 128, .inl (fun _ => 0)))] := hD
  refine lv_aload_n hx hb dM_init_48 rfl (lv_at hl 0 rfl) ?_
  refine lv_bipush (v := 64) hx hb dM_init_49 (by decide) ?_
  refine va_newa (ty := .int) (atype := .int) (a0 := (64, .inl (fun _ => 0))) (N' := 64) hx hb (hk _ k101) rfl hK hP hD hS hA (fun cA => vp_cell_i cA _ _) (by decide +kernel) (by decide +kernel) (by decide +kernel) (Nat.le_of_ble_eq_true rfl) (Nat.le_of_ble_eq_true rfl) dM_init_51 (fun q138 cA139 H hK hP hD hS => ?_)
  have hP : va_P (dC, dI) cls9 [(h0, .inr (2, [.int 0, .int 0, .int 0, .ref q128, .ref q130, .ref q132, .ref q134, .ref q136, .int 0, .int 0, .int 0, .null, .null, .null, .null, .null, .null, .null, .null, .null, .null, .null, .null, .null, .int 0])), (q128, .inl (cA129, 290816, .inl (fun _ => 0))), (q130, .inl (cA131, 16384, .inl (fun _ => 0))), (q132, .inl (cA133, 128, .inl (fun _ => 0))), (q134, .inl (cA135, 128, .inl (fun _ => 0))), (q136, .inl (cA137, 128, .inl (fun _ => 0))), (q138, .inl (cA139, 64, .inl (fun _ => 0)))] H := hP
  have hD : va_D A [(h0, .inr (2, [.int 0, .int 0, .int 0, .ref q128, .ref q130, .ref q132, .ref q134, .ref q136, .int 0, .int 0, .int 0, .null, .null, .null, .null, .null, .null, .null, .null, .null, .null, .null, .null, .null, .int 0])), (q128, .inl (cA129, 290816, .inl (fun _ => 0))), (q130, .inl (cA131, 16384, .inl (fun _ => 0))), (q132, .inl (cA133, 128, .inl (fun _ => 0))), (q134, .inl (cA135, 128, .inl (fun _ => 0))), (q136, .inl (cA137, 128, .inl (fun _ => 0))), (q138, .inl (cA139, 64, .inl (fun _ => 0)))] := hD
  have hK : va_K (dC, dI) cls9 [(cA129, .int), (cA131, .int), (cA133, .int), (cA135, .int), (cA137, .int), (cA139, .int)] s := hK
  refine va_putF (D := (dC, dI)) (ci := 2) (v := .ref q138) (ty := .array .int) (C := "ImageGcdsModel") (T := TM) (N := 25) hx hb hk uM tM tM_ok nM hown hK hP hD hS 0 rfl rfl 11 (by decide) (hk _ k107) (fun _ h9 => h9) rfl hin rfl (by decide +kernel) rfl rfl (Nat.le_of_ble_eq_true rfl) dM_init_53 (fun H locs hP hD hS => ?_)
  have hP : va_P (dC, dI) cls9 [(h0, .inr (2, [.int 0, .int 0, .int 0, .ref q128, .ref q130, .ref q132, .ref q134, .ref q136, .int 0, .int 0, .int 0, .ref q138, .null, .null, .null, .null, .null, .null, .null, .null, .null, .null, .null, .null, .int 0])), (q128, .inl (cA129, 290816, .inl (fun _ => 0))), (q130, .inl (cA131, 16384, .inl (fun _ => 0))), (q132, .inl (cA133, 128, .inl (fun _ => 0))), (q134, .inl (cA135, 128, .inl (fun _ => 0))), (q136, .inl (cA137, 128, .inl (fun _ => 0))), (q138, .inl (cA139, 64, .inl (fun _ => 0)))] H := hP
  have hD : va_D A [(h0, .inr (2, [.int 0, .int 0, .int 0, .ref q128, .ref q130, .ref q132, .ref q134, .ref q136, .int 0, .int 0, .int 0, .ref q138, .null, .null, .null, .null, .null, .null, .null, .null, .null, .null, .null, .null, .int 0])), (q128, .inl (cA129, 290816, .inl (fun _ => 0))), (q130, .inl (cA131, 16384, .inl (fun _ => 0))), (q132, .inl (cA133, 128, .inl (fun _ => 0))), (q134, .inl (cA135, 128, .inl (fun _ => 0))), (q136, .inl (cA137, 128, .inl (fun _ => 0))), (q138, .inl (cA139, 64, .inl (fun _ => 0)))] := hD
  refine lv_aload_n hx hb dM_init_56 rfl (lv_at hl 0 rfl) ?_
  refine lv_bipush (v := 64) hx hb dM_init_57 (by decide) ?_
  refine va_newa (ty := .int) (atype := .int) (a0 := (64, .inl (fun _ => 0))) (N' := 64) hx hb (hk _ k101) rfl hK hP hD hS hA (fun cA => vp_cell_i cA _ _) (by decide +kernel) (by decide +kernel) (by decide +kernel) (Nat.le_of_ble_eq_true rfl) (Nat.le_of_ble_eq_true rfl) dM_init_59 (fun q140 cA141 H hK hP hD hS => ?_)
  have hP : va_P (dC, dI) cls9 [(h0, .inr (2, [.int 0, .int 0, .int 0, .ref q128, .ref q130, .ref q132, .ref q134, .ref q136, .int 0, .int 0, .int 0, .ref q138, .null, .null, .null, .null, .null, .null, .null, .null, .null, .null, .null, .null, .int 0])), (q128, .inl (cA129, 290816, .inl (fun _ => 0))), (q130, .inl (cA131, 16384, .inl (fun _ => 0))), (q132, .inl (cA133, 128, .inl (fun _ => 0))), (q134, .inl (cA135, 128, .inl (fun _ => 0))), (q136, .inl (cA137, 128, .inl (fun _ => 0))), (q138, .inl (cA139, 64, .inl (fun _ => 0))), (q140, .inl (cA141, 64, .inl (fun _ => 0)))] H := hP
  have hD : va_D A [(h0, .inr (2, [.int 0, .int 0, .int 0, .ref q128, .ref q130, .ref q132, .ref q134, .ref q136, .int 0, .int 0, .int 0, .ref q138, .null, .null, .null, .null, .null, .null, .null, .null, .null, .null, .null, .null, .int 0])), (q128, .inl (cA129, 290816, .inl (fun _ => 0))), (q130, .inl (cA131, 16384, .inl (fun _ => 0))), (q132, .inl (cA133, 128, .inl (fun _ => 0))), (q134, .inl (cA135, 128, .inl (fun _ => 0))), (q136, .inl (cA137, 128, .inl (fun _ => 0))), (q138, .inl (cA139, 64, .inl (fun _ => 0))), (q140, .inl (cA141, 64, .inl (fun _ => 0)))] := hD
  have hK : va_K (dC, dI) cls9 [(cA129, .int), (cA131, .int), (cA133, .int), (cA135, .int), (cA137, .int), (cA139, .int), (cA141, .int)] s := hK
  refine va_putF (D := (dC, dI)) (ci := 2) (v := .ref q140) (ty := .array .int) (C := "ImageGcdsModel") (T := TM) (N := 25) hx hb hk uM tM tM_ok nM hown hK hP hD hS 0 rfl rfl 12 (by decide) (hk _ k108) (fun _ h9 => h9) rfl hin rfl (by decide +kernel) rfl rfl (Nat.le_of_ble_eq_true rfl) dM_init_61 (fun H locs hP hD hS => ?_)
  have hP : va_P (dC, dI) cls9 [(h0, .inr (2, [.int 0, .int 0, .int 0, .ref q128, .ref q130, .ref q132, .ref q134, .ref q136, .int 0, .int 0, .int 0, .ref q138, .ref q140, .null, .null, .null, .null, .null, .null, .null, .null, .null, .null, .null, .int 0])), (q128, .inl (cA129, 290816, .inl (fun _ => 0))), (q130, .inl (cA131, 16384, .inl (fun _ => 0))), (q132, .inl (cA133, 128, .inl (fun _ => 0))), (q134, .inl (cA135, 128, .inl (fun _ => 0))), (q136, .inl (cA137, 128, .inl (fun _ => 0))), (q138, .inl (cA139, 64, .inl (fun _ => 0))), (q140, .inl (cA141, 64, .inl (fun _ => 0)))] H := hP
  have hD : va_D A [(h0, .inr (2, [.int 0, .int 0, .int 0, .ref q128, .ref q130, .ref q132, .ref q134, .ref q136, .int 0, .int 0, .int 0, .ref q138, .ref q140, .null, .null, .null, .null, .null, .null, .null, .null, .null, .null, .null, .int 0])), (q128, .inl (cA129, 290816, .inl (fun _ => 0))), (q130, .inl (cA131, 16384, .inl (fun _ => 0))), (q132, .inl (cA133, 128, .inl (fun _ => 0))), (q134, .inl (cA135, 128, .inl (fun _ => 0))), (q136, .inl (cA137, 128, .inl (fun _ => 0))), (q138, .inl (cA139, 64, .inl (fun _ => 0))), (q140, .inl (cA141, 64, .inl (fun _ => 0)))] := hD
  refine lv_aload_n hx hb dM_init_64 rfl (lv_at hl 0 rfl) ?_
  refine lv_bipush (v := 64) hx hb dM_init_65 (by decide) ?_
  refine va_newa (ty := .int) (atype := .int) (a0 := (64, .inl (fun _ => 0))) (N' := 64) hx hb (hk _ k101) rfl hK hP hD hS hA (fun cA => vp_cell_i cA _ _) (by decide +kernel) (by decide +kernel) (by decide +kernel) (Nat.le_of_ble_eq_true rfl) (Nat.le_of_ble_eq_true rfl) dM_init_67 (fun q142 cA143 H hK hP hD hS => ?_)
  have hP : va_P (dC, dI) cls9 [(h0, .inr (2, [.int 0, .int 0, .int 0, .ref q128, .ref q130, .ref q132, .ref q134, .ref q136, .int 0, .int 0, .int 0, .ref q138, .ref q140, .null, .null, .null, .null, .null, .null, .null, .null, .null, .null, .null, .int 0])), (q128, .inl (cA129, 290816, .inl (fun _ => 0))), (q130, .inl (cA131, 16384, .inl (fun _ => 0))), (q132, .inl (cA133, 128, .inl (fun _ => 0))), (q134, .inl (cA135, 128, .inl (fun _ => 0))), (q136, .inl (cA137, 128, .inl (fun _ => 0))), (q138, .inl (cA139, 64, .inl (fun _ => 0))), (q140, .inl (cA141, 64, .inl (fun _ => 0))), (q142, .inl (cA143, 64, .inl (fun _ => 0)))] H := hP
  have hD : va_D A [(h0, .inr (2, [.int 0, .int 0, .int 0, .ref q128, .ref q130, .ref q132, .ref q134, .ref q136, .int 0, .int 0, .int 0, .ref q138, .ref q140, .null, .null, .null, .null, .null, .null, .null, .null, .null, .null, .null, .int 0])), (q128, .inl (cA129, 290816, .inl (fun _ => 0))), (q130, .inl (cA131, 16384, .inl (fun _ => 0))), (q132, .inl (cA133, 128, .inl (fun _ => 0))), (q134, .inl (cA135, 128, .inl (fun _ => 0))), (q136, .inl (cA137, 128, .inl (fun _ => 0))), (q138, .inl (cA139, 64, .inl (fun _ => 0))), (q140, .inl (cA141, 64, .inl (fun _ => 0))), (q142, .inl (cA143, 64, .inl (fun _ => 0)))] := hD
  have hK : va_K (dC, dI) cls9 [(cA129, .int), (cA131, .int), (cA133, .int), (cA135, .int), (cA137, .int), (cA139, .int), (cA141, .int), (cA143, .int)] s := hK
  refine va_putF (D := (dC, dI)) (ci := 2) (v := .ref q142) (ty := .array .int) (C := "ImageGcdsModel") (T := TM) (N := 25) hx hb hk uM tM tM_ok nM hown hK hP hD hS 0 rfl rfl 13 (by decide) (hk _ k109) (fun _ h9 => h9) rfl hin rfl (by decide +kernel) rfl rfl (Nat.le_of_ble_eq_true rfl) dM_init_69 (fun H locs hP hD hS => ?_)
  have hP : va_P (dC, dI) cls9 [(h0, .inr (2, [.int 0, .int 0, .int 0, .ref q128, .ref q130, .ref q132, .ref q134, .ref q136, .int 0, .int 0, .int 0, .ref q138, .ref q140, .ref q142, .null, .null, .null, .null, .null, .null, .null, .null, .null, .null, .int 0])), (q128, .inl (cA129, 290816, .inl (fun _ => 0))), (q130, .inl (cA131, 16384, .inl (fun _ => 0))), (q132, .inl (cA133, 128, .inl (fun _ => 0))), (q134, .inl (cA135, 128, .inl (fun _ => 0))), (q136, .inl (cA137, 128, .inl (fun _ => 0))), (q138, .inl (cA139, 64, .inl (fun _ => 0))), (q140, .inl (cA141, 64, .inl (fun _ => 0))), (q142, .inl (cA143, 64, .inl (fun _ => 0)))] H := hP
  have hD : va_D A [(h0, .inr (2, [.int 0, .int 0, .int 0, .ref q128, .ref q130, .ref q132, .ref q134, .ref q136, .int 0, .int 0, .int 0, .ref q138, .ref q140, .ref q142, .null, .null, .null, .null, .null, .null, .null, .null, .null, .null, .int 0])), (q128, .inl (cA129, 290816, .inl (fun _ => 0))), (q130, .inl (cA131, 16384, .inl (fun _ => 0))), (q132, .inl (cA133, 128, .inl (fun _ => 0))), (q134, .inl (cA135, 128, .inl (fun _ => 0))), (q136, .inl (cA137, 128, .inl (fun _ => 0))), (q138, .inl (cA139, 64, .inl (fun _ => 0))), (q140, .inl (cA141, 64, .inl (fun _ => 0))), (q142, .inl (cA143, 64, .inl (fun _ => 0)))] := hD
  refine lv_aload_n hx hb dM_init_72 rfl (lv_at hl 0 rfl) ?_
  refine lv_bipush (v := 64) hx hb dM_init_73 (by decide) ?_
  refine va_newa (ty := .int) (atype := .int) (a0 := (64, .inl (fun _ => 0))) (N' := 64) hx hb (hk _ k101) rfl hK hP hD hS hA (fun cA => vp_cell_i cA _ _) (by decide +kernel) (by decide +kernel) (by decide +kernel) (Nat.le_of_ble_eq_true rfl) (Nat.le_of_ble_eq_true rfl) dM_init_75 (fun q144 cA145 H hK hP hD hS => ?_)
  have hP : va_P (dC, dI) cls9 [(h0, .inr (2, [.int 0, .int 0, .int 0, .ref q128, .ref q130, .ref q132, .ref q134, .ref q136, .int 0, .int 0, .int 0, .ref q138, .ref q140, .ref q142, .null, .null, .null, .null, .null, .null, .null, .null, .null, .null, .int 0])), (q128, .inl (cA129, 290816, .inl (fun _ => 0))), (q130, .inl (cA131, 16384, .inl (fun _ => 0))), (q132, .inl (cA133, 128, .inl (fun _ => 0))), (q134, .inl (cA135, 128, .inl (fun _ => 0))), (q136, .inl (cA137, 128, .inl (fun _ => 0))), (q138, .inl (cA139, 64, .inl (fun _ => 0))), (q140, .inl (cA141, 64, .inl (fun _ => 0))), (q142, .inl (cA143, 64, .inl (fun _ => 0))), (q144, .inl (cA145, 64, .inl (fun _ => 0)))] H := hP
  have hD : va_D A [(h0, .inr (2, [.int 0, .int 0, .int 0, .ref q128, .ref q130, .ref q132, .ref q134, .ref q136, .int 0, .int 0, .int 0, .ref q138, .ref q140, .ref q142, .null, .null, .null, .null, .null, .null, .null, .null, .null, .null, .int 0])), (q128, .inl (cA129, 290816, .inl (fun _ => 0))), (q130, .inl (cA131, 16384, .inl (fun _ => 0))), (q132, .inl (cA133, 128, .inl (fun _ => 0))), (q134, .inl (cA135, 128, .inl (fun _ => 0))), (q136, .inl (cA137, 128, .inl (fun _ => 0))), (q138, .inl (cA139, 64, .inl (fun _ => 0))), (q140, .inl (cA141, 64, .inl (fun _ => 0))), (q142, .inl (cA143, 64, .inl (fun _ => 0))), (q144, .inl (cA145, 64, .inl (fun _ => 0)))] := hD
  have hK : va_K (dC, dI) cls9 [(cA129, .int), (cA131, .int), (cA133, .int), (cA135, .int), (cA137, .int), (cA139, .int), (cA141, .int), (cA143, .int), (cA145, .int)] s := hK
  refine va_putF (D := (dC, dI)) (ci := 2) (v := .ref q144) (ty := .array .int) (C := "ImageGcdsModel") (T := TM) (N := 25) hx hb hk uM tM tM_ok nM hown hK hP hD hS 0 rfl rfl 14 (by decide) (hk _ k110) (fun _ h9 => h9) rfl hin rfl (by decide +kernel) rfl rfl (Nat.le_of_ble_eq_true rfl) dM_init_77 (fun H locs hP hD hS => ?_)
  have hP : va_P (dC, dI) cls9 [(h0, .inr (2, [.int 0, .int 0, .int 0, .ref q128, .ref q130, .ref q132, .ref q134, .ref q136, .int 0, .int 0, .int 0, .ref q138, .ref q140, .ref q142, .ref q144, .null, .null, .null, .null, .null, .null, .null, .null, .null, .int 0])), (q128, .inl (cA129, 290816, .inl (fun _ => 0))), (q130, .inl (cA131, 16384, .inl (fun _ => 0))), (q132, .inl (cA133, 128, .inl (fun _ => 0))), (q134, .inl (cA135, 128, .inl (fun _ => 0))), (q136, .inl (cA137, 128, .inl (fun _ => 0))), (q138, .inl (cA139, 64, .inl (fun _ => 0))), (q140, .inl (cA141, 64, .inl (fun _ => 0))), (q142, .inl (cA143, 64, .inl (fun _ => 0))), (q144, .inl (cA145, 64, .inl (fun _ => 0)))] H := hP
  have hD : va_D A [(h0, .inr (2, [.int 0, .int 0, .int 0, .ref q128, .ref q130, .ref q132, .ref q134, .ref q136, .int 0, .int 0, .int 0, .ref q138, .ref q140, .ref q142, .ref q144, .null, .null, .null, .null, .null, .null, .null, .null, .null, .int 0])), (q128, .inl (cA129, 290816, .inl (fun _ => 0))), (q130, .inl (cA131, 16384, .inl (fun _ => 0))), (q132, .inl (cA133, 128, .inl (fun _ => 0))), (q134, .inl (cA135, 128, .inl (fun _ => 0))), (q136, .inl (cA137, 128, .inl (fun _ => 0))), (q138, .inl (cA139, 64, .inl (fun _ => 0))), (q140, .inl (cA141, 64, .inl (fun _ => 0))), (q142, .inl (cA143, 64, .inl (fun _ => 0))), (q144, .inl (cA145, 64, .inl (fun _ => 0)))] := hD
  refine lv_aload_n hx hb dM_init_80 rfl (lv_at hl 0 rfl) ?_
  refine lv_sipush (v := 2048) hx hb dM_init_81 (by decide) ?_
  refine va_newa (ty := .int) (atype := .int) (a0 := (2048, .inl (fun _ => 0))) (N' := 2048) hx hb (hk _ k101) rfl hK hP hD hS hA (fun cA => vp_cell_i cA _ _) (by decide +kernel) (by decide +kernel) (by decide +kernel) (Nat.le_of_ble_eq_true rfl) (Nat.le_of_ble_eq_true rfl) dM_init_84 (fun q146 cA147 H hK hP hD hS => ?_)
  have hP : va_P (dC, dI) cls9 [(h0, .inr (2, [.int 0, .int 0, .int 0, .ref q128, .ref q130, .ref q132, .ref q134, .ref q136, .int 0, .int 0, .int 0, .ref q138, .ref q140, .ref q142, .ref q144, .null, .null, .null, .null, .null, .null, .null, .null, .null, .int 0])), (q128, .inl (cA129, 290816, .inl (fun _ => 0))), (q130, .inl (cA131, 16384, .inl (fun _ => 0))), (q132, .inl (cA133, 128, .inl (fun _ => 0))), (q134, .inl (cA135, 128, .inl (fun _ => 0))), (q136, .inl (cA137, 128, .inl (fun _ => 0))), (q138, .inl (cA139, 64, .inl (fun _ => 0))), (q140, .inl (cA141, 64, .inl (fun _ => 0))), (q142, .inl (cA143, 64, .inl (fun _ => 0))), (q144, .inl (cA145, 64, .inl (fun _ => 0))), (q146, .inl (cA147, 2048, .inl (fun _ => 0)))] H := hP
  have hD : va_D A [(h0, .inr (2, [.int 0, .int 0, .int 0, .ref q128, .ref q130, .ref q132, .ref q134, .ref q136, .int 0, .int 0, .int 0, .ref q138, .ref q140, .ref q142, .ref q144, .null, .null, .null, .null, .null, .null, .null, .null, .null, .int 0])), (q128, .inl (cA129, 290816, .inl (fun _ => 0))), (q130, .inl (cA131, 16384, .inl (fun _ => 0))), (q132, .inl (cA133, 128, .inl (fun _ => 0))), (q134, .inl (cA135, 128, .inl (fun _ => 0))), (q136, .inl (cA137, 128, .inl (fun _ => 0))), (q138, .inl (cA139, 64, .inl (fun _ => 0))), (q140, .inl (cA141, 64, .inl (fun _ => 0))), (q142, .inl (cA143, 64, .inl (fun _ => 0))), (q144, .inl (cA145, 64, .inl (fun _ => 0))), (q146, .inl (cA147, 2048, .inl (fun _ => 0)))] := hD
  have hK : va_K (dC, dI) cls9 [(cA129, .int), (cA131, .int), (cA133, .int), (cA135, .int), (cA137, .int), (cA139, .int), (cA141, .int), (cA143, .int), (cA145, .int), (cA147, .int)] s := hK
  refine va_putF (D := (dC, dI)) (ci := 2) (v := .ref q146) (ty := .array .int) (C := "ImageGcdsModel") (T := TM) (N := 25) hx hb hk uM tM tM_ok nM hown hK hP hD hS 0 rfl rfl 15 (by decide) (hk _ k111) (fun _ h9 => h9) rfl hin rfl (by decide +kernel) rfl rfl (Nat.le_of_ble_eq_true rfl) dM_init_86 (fun H locs hP hD hS => ?_)
  have hP : va_P (dC, dI) cls9 [(h0, .inr (2, [.int 0, .int 0, .int 0, .ref q128, .ref q130, .ref q132, .ref q134, .ref q136, .int 0, .int 0, .int 0, .ref q138, .ref q140, .ref q142, .ref q144, .ref q146, .null, .null, .null, .null, .null, .null, .null, .null, .int 0])), (q128, .inl (cA129, 290816, .inl (fun _ => 0))), (q130, .inl (cA131, 16384, .inl (fun _ => 0))), (q132, .inl (cA133, 128, .inl (fun _ => 0))), (q134, .inl (cA135, 128, .inl (fun _ => 0))), (q136, .inl (cA137, 128, .inl (fun _ => 0))), (q138, .inl (cA139, 64, .inl (fun _ => 0))), (q140, .inl (cA141, 64, .inl (fun _ => 0))), (q142, .inl (cA143, 64, .inl (fun _ => 0))), (q144, .inl (cA145, 64, .inl (fun _ => 0))), (q146, .inl (cA147, 2048, .inl (fun _ => 0)))] H := hP
  have hD : va_D A [(h0, .inr (2, [.int 0, .int 0, .int 0, .ref q128, .ref q130, .ref q132, .ref q134, .ref q136, .int 0, .int 0, .int 0, .ref q138, .ref q140, .ref q142, .ref q144, .ref q146, .null, .null, .null, .null, .null, .null, .null, .null, .int 0])), (q128, .inl (cA129, 290816, .inl (fun _ => 0))), (q130, .inl (cA131, 16384, .inl (fun _ => 0))), (q132, .inl (cA133, 128, .inl (fun _ => 0))), (q134, .inl (cA135, 128, .inl (fun _ => 0))), (q136, .inl (cA137, 128, .inl (fun _ => 0))), (q138, .inl (cA139, 64, .inl (fun _ => 0))), (q140, .inl (cA141, 64, .inl (fun _ => 0))), (q142, .inl (cA143, 64, .inl (fun _ => 0))), (q144, .inl (cA145, 64, .inl (fun _ => 0))), (q146, .inl (cA147, 2048, .inl (fun _ => 0)))] := hD
  refine lv_aload_n hx hb dM_init_89 rfl (lv_at hl 0 rfl) ?_
  refine lv_bipush (v := 32) hx hb dM_init_90 (by decide) ?_
  refine va_newa (ty := .int) (atype := .int) (a0 := (32, .inl (fun _ => 0))) (N' := 32) hx hb (hk _ k101) rfl hK hP hD hS hA (fun cA => vp_cell_i cA _ _) (by decide +kernel) (by decide +kernel) (by decide +kernel) (Nat.le_of_ble_eq_true rfl) (Nat.le_of_ble_eq_true rfl) dM_init_92 (fun q148 cA149 H hK hP hD hS => ?_)
  have hP : va_P (dC, dI) cls9 [(h0, .inr (2, [.int 0, .int 0, .int 0, .ref q128, .ref q130, .ref q132, .ref q134, .ref q136, .int 0, .int 0, .int 0, .ref q138, .ref q140, .ref q142, .ref q144, .ref q146, .null, .null, .null, .null, .null, .null, .null, .null, .int 0])), (q128, .inl (cA129, 290816, .inl (fun _ => 0))), (q130, .inl (cA131, 16384, .inl (fun _ => 0))), (q132, .inl (cA133, 128, .inl (fun _ => 0))), (q134, .inl (cA135, 128, .inl (fun _ => 0))), (q136, .inl (cA137, 128, .inl (fun _ => 0))), (q138, .inl (cA139, 64, .inl (fun _ => 0))), (q140, .inl (cA141, 64, .inl (fun _ => 0))), (q142, .inl (cA143, 64, .inl (fun _ => 0))), (q144, .inl (cA145, 64, .inl (fun _ => 0))), (q146, .inl (cA147, 2048, .inl (fun _ => 0))), (q148, .inl (cA149, 32, .inl (fun _ => 0)))] H := hP
  have hD : va_D A [(h0, .inr (2, [.int 0, .int 0, .int 0, .ref q128, .ref q130, .ref q132, .ref q134, .ref q136, .int 0, .int 0, .int 0, .ref q138, .ref q140, .ref q142, .ref q144, .ref q146, .null, .null, .null, .null, .null, .null, .null, .null, .int 0])), (q128, .inl (cA129, 290816, .inl (fun _ => 0))), (q130, .inl (cA131, 16384, .inl (fun _ => 0))), (q132, .inl (cA133, 128, .inl (fun _ => 0))), (q134, .inl (cA135, 128, .inl (fun _ => 0))), (q136, .inl (cA137, 128, .inl (fun _ => 0))), (q138, .inl (cA139, 64, .inl (fun _ => 0))), (q140, .inl (cA141, 64, .inl (fun _ => 0))), (q142, .inl (cA143, 64, .inl (fun _ => 0))), (q144, .inl (cA145, 64, .inl (fun _ => 0))), (q146, .inl (cA147, 2048, .inl (fun _ => 0))), (q148, .inl (cA149, 32, .inl (fun _ => 0)))] := hD
  have hK : va_K (dC, dI) cls9 [(cA129, .int), (cA131, .int), (cA133, .int), (cA135, .int), (cA137, .int), (cA139, .int), (cA141, .int), (cA143, .int), (cA145, .int), (cA147, .int), (cA149, .int)] s := hK
  refine va_putF (D := (dC, dI)) (ci := 2) (v := .ref q148) (ty := .array .int) (C := "ImageGcdsModel") (T := TM) (N := 25) hx hb hk uM tM tM_ok nM hown hK hP hD hS 0 rfl rfl 16 (by decide) (hk _ k112) (fun _ h9 => h9) rfl hin rfl (by decide +kernel) rfl rfl (Nat.le_of_ble_eq_true rfl) dM_init_94 (fun H locs hP hD hS => ?_)
  have hP : va_P (dC, dI) cls9 [(h0, .inr (2, [.int 0, .int 0, .int 0, .ref q128, .ref q130, .ref q132, .ref q134, .ref q136, .int 0, .int 0, .int 0, .ref q138, .ref q140, .ref q142, .ref q144, .ref q146, .ref q148, .null, .null, .null, .null, .null, .null, .null, .int 0])), (q128, .inl (cA129, 290816, .inl (fun _ => 0))), (q130, .inl (cA131, 16384, .inl (fun _ => 0))), (q132, .inl (cA133, 128, .inl (fun _ => 0))), (q134, .inl (cA135, 128, .inl (fun _ => 0))), (q136, .inl (cA137, 128, .inl (fun _ => 0))), (q138, .inl (cA139, 64, .inl (fun _ => 0))), (q140, .inl (cA141, 64, .inl (fun _ => 0))), (q142, .inl (cA143, 64, .inl (fun _ => 0))), (q144, .inl (cA145, 64, .inl (fun _ => 0))), (q146, .inl (cA147, 2048, .inl (fun _ => 0))), (q148, .inl (cA149, 32, .inl (fun _ => 0)))] H := hP
  have hD : va_D A [(h0, .inr (2, [.int 0, .int 0, .int 0, .ref q128, .ref q130, .ref q132, .ref q134, .ref q136, .int 0, .int 0, .int 0, .ref q138, .ref q140, .ref q142, .ref q144, .ref q146, .ref q148, .null, .null, .null, .null, .null, .null, .null, .int 0])), (q128, .inl (cA129, 290816, .inl (fun _ => 0))), (q130, .inl (cA131, 16384, .inl (fun _ => 0))), (q132, .inl (cA133, 128, .inl (fun _ => 0))), (q134, .inl (cA135, 128, .inl (fun _ => 0))), (q136, .inl (cA137, 128, .inl (fun _ => 0))), (q138, .inl (cA139, 64, .inl (fun _ => 0))), (q140, .inl (cA141, 64, .inl (fun _ => 0))), (q142, .inl (cA143, 64, .inl (fun _ => 0))), (q144, .inl (cA145, 64, .inl (fun _ => 0))), (q146, .inl (cA147, 2048, .inl (fun _ => 0))), (q148, .inl (cA149, 32, .inl (fun _ => 0)))] := hD
  refine lv_aload_n hx hb dM_init_97 rfl (lv_at hl 0 rfl) ?_
  refine lv_sipush (v := 512) hx hb dM_init_98 (by decide) ?_
  refine va_newa (ty := .int) (atype := .int) (a0 := (512, .inl (fun _ => 0))) (N' := 512) hx hb (hk _ k101) rfl hK hP hD hS hA (fun cA => vp_cell_i cA _ _) (by decide +kernel) (by decide +kernel) (by decide +kernel) (Nat.le_of_ble_eq_true rfl) (Nat.le_of_ble_eq_true rfl) dM_init_101 (fun q150 cA151 H hK hP hD hS => ?_)
  have hP : va_P (dC, dI) cls9 [(h0, .inr (2, [.int 0, .int 0, .int 0, .ref q128, .ref q130, .ref q132, .ref q134, .ref q136, .int 0, .int 0, .int 0, .ref q138, .ref q140, .ref q142, .ref q144, .ref q146, .ref q148, .null, .null, .null, .null, .null, .null, .null, .int 0])), (q128, .inl (cA129, 290816, .inl (fun _ => 0))), (q130, .inl (cA131, 16384, .inl (fun _ => 0))), (q132, .inl (cA133, 128, .inl (fun _ => 0))), (q134, .inl (cA135, 128, .inl (fun _ => 0))), (q136, .inl (cA137, 128, .inl (fun _ => 0))), (q138, .inl (cA139, 64, .inl (fun _ => 0))), (q140, .inl (cA141, 64, .inl (fun _ => 0))), (q142, .inl (cA143, 64, .inl (fun _ => 0))), (q144, .inl (cA145, 64, .inl (fun _ => 0))), (q146, .inl (cA147, 2048, .inl (fun _ => 0))), (q148, .inl (cA149, 32, .inl (fun _ => 0))), (q150, .inl (cA151, 512, .inl (fun _ => 0)))] H := hP
  have hD : va_D A [(h0, .inr (2, [.int 0, .int 0, .int 0, .ref q128, .ref q130, .ref q132, .ref q134, .ref q136, .int 0, .int 0, .int 0, .ref q138, .ref q140, .ref q142, .ref q144, .ref q146, .ref q148, .null, .null, .null, .null, .null, .null, .null, .int 0])), (q128, .inl (cA129, 290816, .inl (fun _ => 0))), (q130, .inl (cA131, 16384, .inl (fun _ => 0))), (q132, .inl (cA133, 128, .inl (fun _ => 0))), (q134, .inl (cA135, 128, .inl (fun _ => 0))), (q136, .inl (cA137, 128, .inl (fun _ => 0))), (q138, .inl (cA139, 64, .inl (fun _ => 0))), (q140, .inl (cA141, 64, .inl (fun _ => 0))), (q142, .inl (cA143, 64, .inl (fun _ => 0))), (q144, .inl (cA145, 64, .inl (fun _ => 0))), (q146, .inl (cA147, 2048, .inl (fun _ => 0))), (q148, .inl (cA149, 32, .inl (fun _ => 0))), (q150, .inl (cA151, 512, .inl (fun _ => 0)))] := hD
  have hK : va_K (dC, dI) cls9 [(cA129, .int), (cA131, .int), (cA133, .int), (cA135, .int), (cA137, .int), (cA139, .int), (cA141, .int), (cA143, .int), (cA145, .int), (cA147, .int), (cA149, .int), (cA151, .int)] s := hK
  refine va_putF (D := (dC, dI)) (ci := 2) (v := .ref q150) (ty := .array .int) (C := "ImageGcdsModel") (T := TM) (N := 25) hx hb hk uM tM tM_ok nM hown hK hP hD hS 0 rfl rfl 17 (by decide) (hk _ k113) (fun _ h9 => h9) rfl hin rfl (by decide +kernel) rfl rfl (Nat.le_of_ble_eq_true rfl) dM_init_103 (fun H locs hP hD hS => ?_)
  have hP : va_P (dC, dI) cls9 [(h0, .inr (2, [.int 0, .int 0, .int 0, .ref q128, .ref q130, .ref q132, .ref q134, .ref q136, .int 0, .int 0, .int 0, .ref q138, .ref q140, .ref q142, .ref q144, .ref q146, .ref q148, .ref q150, .null, .null, .null, .null, .null, .null, .int 0])), (q128, .inl (cA129, 290816, .inl (fun _ => 0))), (q130, .inl (cA131, 16384, .inl (fun _ => 0))), (q132, .inl (cA133, 128, .inl (fun _ => 0))), (q134, .inl (cA135, 128, .inl (fun _ => 0))), (q136, .inl (cA137, 128, .inl (fun _ => 0))), (q138, .inl (cA139, 64, .inl (fun _ => 0))), (q140, .inl (cA141, 64, .inl (fun _ => 0))), (q142, .inl (cA143, 64, .inl (fun _ => 0))), (q144, .inl (cA145, 64, .inl (fun _ => 0))), (q146, .inl (cA147, 2048, .inl (fun _ => 0))), (q148, .inl (cA149, 32, .inl (fun _ => 0))), (q150, .inl (cA151, 512, .inl (fun _ => 0)))] H := hP
  have hD : va_D A [(h0, .inr (2, [.int 0, .int 0, .int 0, .ref q128, .ref q130, .ref q132, .ref q134, .ref q136, .int 0, .int 0, .int 0, .ref q138, .ref q140, .ref q142, .ref q144, .ref q146, .ref q148, .ref q150, .null, .null, .null, .null, .null, .null, .int 0])), (q128, .inl (cA129, 290816, .inl (fun _ => 0))), (q130, .inl (cA131, 16384, .inl (fun _ => 0))), (q132, .inl (cA133, 128, .inl (fun _ => 0))), (q134, .inl (cA135, 128, .inl (fun _ => 0))), (q136, .inl (cA137, 128, .inl (fun _ => 0))), (q138, .inl (cA139, 64, .inl (fun _ => 0))), (q140, .inl (cA141, 64, .inl (fun _ => 0))), (q142, .inl (cA143, 64, .inl (fun _ => 0))), (q144, .inl (cA145, 64, .inl (fun _ => 0))), (q146, .inl (cA147, 2048, .inl (fun _ => 0))), (q148, .inl (cA149, 32, .inl (fun _ => 0))), (q150, .inl (cA151, 512, .inl (fun _ => 0)))] := hD
  refine lv_aload_n hx hb dM_init_106 rfl (lv_at hl 0 rfl) ?_
  refine lv_bipush (v := 32) hx hb dM_init_107 (by decide) ?_
  refine va_newa (ty := .int) (atype := .int) (a0 := (32, .inl (fun _ => 0))) (N' := 32) hx hb (hk _ k101) rfl hK hP hD hS hA (fun cA => vp_cell_i cA _ _) (by decide +kernel) (by decide +kernel) (by decide +kernel) (Nat.le_of_ble_eq_true rfl) (Nat.le_of_ble_eq_true rfl) dM_init_109 (fun q152 cA153 H hK hP hD hS => ?_)
  have hP : va_P (dC, dI) cls9 [(h0, .inr (2, [.int 0, .int 0, .int 0, .ref q128, .ref q130, .ref q132, .ref q134, .ref q136, .int 0, .int 0, .int 0, .ref q138, .ref q140, .ref q142, .ref q144, .ref q146, .ref q148, .ref q150, .null, .null, .null, .null, .null, .null, .int 0])), (q128, .inl (cA129, 290816, .inl (fun _ => 0))), (q130, .inl (cA131, 16384, .inl (fun _ => 0))), (q132, .inl (cA133, 128, .inl (fun _ => 0))), (q134, .inl (cA135, 128, .inl (fun _ => 0))), (q136, .inl (cA137, 128, .inl (fun _ => 0))), (q138, .inl (cA139, 64, .inl (fun _ => 0))), (q140, .inl (cA141, 64, .inl (fun _ => 0))), (q142, .inl (cA143, 64, .inl (fun _ => 0))), (q144, .inl (cA145, 64, .inl (fun _ => 0))), (q146, .inl (cA147, 2048, .inl (fun _ => 0))), (q148, .inl (cA149, 32, .inl (fun _ => 0))), (q150, .inl (cA151, 512, .inl (fun _ => 0))), (q152, .inl (cA153, 32, .inl (fun _ => 0)))] H := hP
  have hD : va_D A [(h0, .inr (2, [.int 0, .int 0, .int 0, .ref q128, .ref q130, .ref q132, .ref q134, .ref q136, .int 0, .int 0, .int 0, .ref q138, .ref q140, .ref q142, .ref q144, .ref q146, .ref q148, .ref q150, .null, .null, .null, .null, .null, .null, .int 0])), (q128, .inl (cA129, 290816, .inl (fun _ => 0))), (q130, .inl (cA131, 16384, .inl (fun _ => 0))), (q132, .inl (cA133, 128, .inl (fun _ => 0))), (q134, .inl (cA135, 128, .inl (fun _ => 0))), (q136, .inl (cA137, 128, .inl (fun _ => 0))), (q138, .inl (cA139, 64, .inl (fun _ => 0))), (q140, .inl (cA141, 64, .inl (fun _ => 0))), (q142, .inl (cA143, 64, .inl (fun _ => 0))), (q144, .inl (cA145, 64, .inl (fun _ => 0))), (q146, .inl (cA147, 2048, .inl (fun _ => 0))), (q148, .inl (cA149, 32, .inl (fun _ => 0))), (q150, .inl (cA151, 512, .inl (fun _ => 0))), (q152, .inl (cA153, 32, .inl (fun _ => 0)))] := hD
  have hK : va_K (dC, dI) cls9 [(cA129, .int), (cA131, .int), (cA133, .int), (cA135, .int), (cA137, .int), (cA139, .int), (cA141, .int), (cA143, .int), (cA145, .int), (cA147, .int), (cA149, .int), (cA151, .int), (cA153, .int)] s := hK
  refine va_putF (D := (dC, dI)) (ci := 2) (v := .ref q152) (ty := .array .int) (C := "ImageGcdsModel") (T := TM) (N := 25) hx hb hk uM tM tM_ok nM hown hK hP hD hS 0 rfl rfl 18 (by decide) (hk _ k114) (fun _ h9 => h9) rfl hin rfl (by decide +kernel) rfl rfl (Nat.le_of_ble_eq_true rfl) dM_init_111 (fun H locs hP hD hS => ?_)
  have hP : va_P (dC, dI) cls9 [(h0, .inr (2, [.int 0, .int 0, .int 0, .ref q128, .ref q130, .ref q132, .ref q134, .ref q136, .int 0, .int 0, .int 0, .ref q138, .ref q140, .ref q142, .ref q144, .ref q146, .ref q148, .ref q150, .ref q152, .null, .null, .null, .null, .null, .int 0])), (q128, .inl (cA129, 290816, .inl (fun _ => 0))), (q130, .inl (cA131, 16384, .inl (fun _ => 0))), (q132, .inl (cA133, 128, .inl (fun _ => 0))), (q134, .inl (cA135, 128, .inl (fun _ => 0))), (q136, .inl (cA137, 128, .inl (fun _ => 0))), (q138, .inl (cA139, 64, .inl (fun _ => 0))), (q140, .inl (cA141, 64, .inl (fun _ => 0))), (q142, .inl (cA143, 64, .inl (fun _ => 0))), (q144, .inl (cA145, 64, .inl (fun _ => 0))), (q146, .inl (cA147, 2048, .inl (fun _ => 0))), (q148, .inl (cA149, 32, .inl (fun _ => 0))), (q150, .inl (cA151, 512, .inl (fun _ => 0))), (q152, .inl (cA153, 32, .inl (fun _ => 0)))] H := hP
  have hD : va_D A [(h0, .inr (2, [.int 0, .int 0, .int 0, .ref q128, .ref q130, .ref q132, .ref q134, .ref q136, .int 0, .int 0, .int 0, .ref q138, .ref q140, .ref q142, .ref q144, .ref q146, .ref q148, .ref q150, .ref q152, .null, .null, .null, .null, .null, .int 0])), (q128, .inl (cA129, 290816, .inl (fun _ => 0))), (q130, .inl (cA131, 16384, .inl (fun _ => 0))), (q132, .inl (cA133, 128, .inl (fun _ => 0))), (q134, .inl (cA135, 128, .inl (fun _ => 0))), (q136, .inl (cA137, 128, .inl (fun _ => 0))), (q138, .inl (cA139, 64, .inl (fun _ => 0))), (q140, .inl (cA141, 64, .inl (fun _ => 0))), (q142, .inl (cA143, 64, .inl (fun _ => 0))), (q144, .inl (cA145, 64, .inl (fun _ => 0))), (q146, .inl (cA147, 2048, .inl (fun _ => 0))), (q148, .inl (cA149, 32, .inl (fun _ => 0))), (q150, .inl (cA151, 512, .inl (fun _ => 0))), (q152, .inl (cA153, 32, .inl (fun _ => 0)))] := hD
  refine lv_aload_n hx hb dM_init_114 rfl (lv_at hl 0 rfl) ?_
  refine lv_sipush (v := 16384) hx hb dM_init_115 (by decide) ?_
  refine va_newa (ty := .int) (atype := .int) (a0 := (16384, .inl (fun _ => 0))) (N' := 16384) hx hb (hk _ k101) rfl hK hP hD hS hA (fun cA => vp_cell_i cA _ _) (by decide +kernel) (by decide +kernel) (by decide +kernel) (Nat.le_of_ble_eq_true rfl) (Nat.le_of_ble_eq_true rfl) dM_init_118 (fun q154 cA155 H hK hP hD hS => ?_)
  have hP : va_P (dC, dI) cls9 [(h0, .inr (2, [.int 0, .int 0, .int 0, .ref q128, .ref q130, .ref q132, .ref q134, .ref q136, .int 0, .int 0, .int 0, .ref q138, .ref q140, .ref q142, .ref q144, .ref q146, .ref q148, .ref q150, .ref q152, .null, .null, .null, .null, .null, .int 0])), (q128, .inl (cA129, 290816, .inl (fun _ => 0))), (q130, .inl (cA131, 16384, .inl (fun _ => 0))), (q132, .inl (cA133, 128, .inl (fun _ => 0))), (q134, .inl (cA135, 128, .inl (fun _ => 0))), (q136, .inl (cA137, 128, .inl (fun _ => 0))), (q138, .inl (cA139, 64, .inl (fun _ => 0))), (q140, .inl (cA141, 64, .inl (fun _ => 0))), (q142, .inl (cA143, 64, .inl (fun _ => 0))), (q144, .inl (cA145, 64, .inl (fun _ => 0))), (q146, .inl (cA147, 2048, .inl (fun _ => 0))), (q148, .inl (cA149, 32, .inl (fun _ => 0))), (q150, .inl (cA151, 512, .inl (fun _ => 0))), (q152, .inl (cA153, 32, .inl (fun _ => 0))), (q154, .inl (cA155, 16384, .inl (fun _ => 0)))] H := hP
  have hD : va_D A [(h0, .inr (2, [.int 0, .int 0, .int 0, .ref q128, .ref q130, .ref q132, .ref q134, .ref q136, .int 0, .int 0, .int 0, .ref q138, .ref q140, .ref q142, .ref q144, .ref q146, .ref q148, .ref q150, .ref q152, .null, .null, .null, .null, .null, .int 0])), (q128, .inl (cA129, 290816, .inl (fun _ => 0))), (q130, .inl (cA131, 16384, .inl (fun _ => 0))), (q132, .inl (cA133, 128, .inl (fun _ => 0))), (q134, .inl (cA135, 128, .inl (fun _ => 0))), (q136, .inl (cA137, 128, .inl (fun _ => 0))), (q138, .inl (cA139, 64, .inl (fun _ => 0))), (q140, .inl (cA141, 64, .inl (fun _ => 0))), (q142, .inl (cA143, 64, .inl (fun _ => 0))), (q144, .inl (cA145, 64, .inl (fun _ => 0))), (q146, .inl (cA147, 2048, .inl (fun _ => 0))), (q148, .inl (cA149, 32, .inl (fun _ => 0))), (q150, .inl (cA151, 512, .inl (fun _ => 0))), (q152, .inl (cA153, 32, .inl (fun _ => 0))), (q154, .inl (cA155, 16384, .inl (fun _ => 0)))] := hD
  have hK : va_K (dC, dI) cls9 [(cA129, .int), (cA131, .int), (cA133, .int), (cA135, .int), (cA137, .int), (cA139, .int), (cA141, .int), (cA143, .int), (cA145, .int), (cA147, .int), (cA149, .int), (cA151, .int), (cA153, .int), (cA155, .int)] s := hK
  refine va_putF (D := (dC, dI)) (ci := 2) (v := .ref q154) (ty := .array .int) (C := "ImageGcdsModel") (T := TM) (N := 25) hx hb hk uM tM tM_ok nM hown hK hP hD hS 0 rfl rfl 19 (by decide) (hk _ k115) (fun _ h9 => h9) rfl hin rfl (by decide +kernel) rfl rfl (Nat.le_of_ble_eq_true rfl) dM_init_120 (fun H locs hP hD hS => ?_)
  have hP : va_P (dC, dI) cls9 [(h0, .inr (2, [.int 0, .int 0, .int 0, .ref q128, .ref q130, .ref q132, .ref q134, .ref q136, .int 0, .int 0, .int 0, .ref q138, .ref q140, .ref q142, .ref q144, .ref q146, .ref q148, .ref q150, .ref q152, .ref q154, .null, .null, .null, .null, .int 0])), (q128, .inl (cA129, 290816, .inl (fun _ => 0))), (q130, .inl (cA131, 16384, .inl (fun _ => 0))), (q132, .inl (cA133, 128, .inl (fun _ => 0))), (q134, .inl (cA135, 128, .inl (fun _ => 0))), (q136, .inl (cA137, 128, .inl (fun _ => 0))), (q138, .inl (cA139, 64, .inl (fun _ => 0))), (q140, .inl (cA141, 64, .inl (fun _ => 0))), (q142, .inl (cA143, 64, .inl (fun _ => 0))), (q144, .inl (cA145, 64, .inl (fun _ => 0))), (q146, .inl (cA147, 2048, .inl (fun _ => 0))), (q148, .inl (cA149, 32, .inl (fun _ => 0))), (q150, .inl (cA151, 512, .inl (fun _ => 0))), (q152, .inl (cA153, 32, .inl (fun _ => 0))), (q154, .inl (cA155, 16384, .inl (fun _ => 0)))] H := hP
  have hD : va_D A [(h0, .inr (2, [.int 0, .int 0, .int 0, .ref q128, .ref q130, .ref q132, .ref q134, .ref q136, .int 0, .int 0, .int 0, .ref q138, .ref q140, .ref q142, .ref q144, .ref q146, .ref q148, .ref q150, .ref q152, .ref q154, .null, .null, .null, .null, .int 0])), (q128, .inl (cA129, 290816, .inl (fun _ => 0))), (q130, .inl (cA131, 16384, .inl (fun _ => 0))), (q132, .inl (cA133, 128, .inl (fun _ => 0))), (q134, .inl (cA135, 128, .inl (fun _ => 0))), (q136, .inl (cA137, 128, .inl (fun _ => 0))), (q138, .inl (cA139, 64, .inl (fun _ => 0))), (q140, .inl (cA141, 64, .inl (fun _ => 0))), (q142, .inl (cA143, 64, .inl (fun _ => 0))), (q144, .inl (cA145, 64, .inl (fun _ => 0))), (q146, .inl (cA147, 2048, .inl (fun _ => 0))), (q148, .inl (cA149, 32, .inl (fun _ => 0))), (q150, .inl (cA151, 512, .inl (fun _ => 0))), (q152, .inl (cA153, 32, .inl (fun _ => 0))), (q154, .inl (cA155, 16384, .inl (fun _ => 0)))] := hD
  refine lv_aload_n hx hb dM_init_123 rfl (lv_at hl 0 rfl) ?_
  refine lv_sipush (v := 16384) hx hb dM_init_124 (by decide) ?_
  refine va_newa (ty := .int) (atype := .int) (a0 := (16384, .inl (fun _ => 0))) (N' := 16384) hx hb (hk _ k101) rfl hK hP hD hS hA (fun cA => vp_cell_i cA _ _) (by decide +kernel) (by decide +kernel) (by decide +kernel) (Nat.le_of_ble_eq_true rfl) (Nat.le_of_ble_eq_true rfl) dM_init_127 (fun q156 cA157 H hK hP hD hS => ?_)
  have hP : va_P (dC, dI) cls9 [(h0, .inr (2, [.int 0, .int 0, .int 0, .ref q128, .ref q130, .ref q132, .ref q134, .ref q136, .int 0, .int 0, .int 0, .ref q138, .ref q140, .ref q142, .ref q144, .ref q146, .ref q148, .ref q150, .ref q152, .ref q154, .null, .null, .null, .null, .int 0])), (q128, .inl (cA129, 290816, .inl (fun _ => 0))), (q130, .inl (cA131, 16384, .inl (fun _ => 0))), (q132, .inl (cA133, 128, .inl (fun _ => 0))), (q134, .inl (cA135, 128, .inl (fun _ => 0))), (q136, .inl (cA137, 128, .inl (fun _ => 0))), (q138, .inl (cA139, 64, .inl (fun _ => 0))), (q140, .inl (cA141, 64, .inl (fun _ => 0))), (q142, .inl (cA143, 64, .inl (fun _ => 0))), (q144, .inl (cA145, 64, .inl (fun _ => 0))), (q146, .inl (cA147, 2048, .inl (fun _ => 0))), (q148, .inl (cA149, 32, .inl (fun _ => 0))), (q150, .inl (cA151, 512, .inl (fun _ => 0))), (q152, .inl (cA153, 32, .inl (fun _ => 0))), (q154, .inl (cA155, 16384, .inl (fun _ => 0))), (q156, .inl (cA157, 16384, .inl (fun _ => 0)))] H := hP
  have hD : va_D A [(h0, .inr (2, [.int 0, .int 0, .int 0, .ref q128, .ref q130, .ref q132, .ref q134, .ref q136, .int 0, .int 0, .int 0, .ref q138, .ref q140, .ref q142, .ref q144, .ref q146, .ref q148, .ref q150, .ref q152, .ref q154, .null, .null, .null, .null, .int 0])), (q128, .inl (cA129, 290816, .inl (fun _ => 0))), (q130, .inl (cA131, 16384, .inl (fun _ => 0))), (q132, .inl (cA133, 128, .inl (fun _ => 0))), (q134, .inl (cA135, 128, .inl (fun _ => 0))), (q136, .inl (cA137, 128, .inl (fun _ => 0))), (q138, .inl (cA139, 64, .inl (fun _ => 0))), (q140, .inl (cA141, 64, .inl (fun _ => 0))), (q142, .inl (cA143, 64, .inl (fun _ => 0))), (q144, .inl (cA145, 64, .inl (fun _ => 0))), (q146, .inl (cA147, 2048, .inl (fun _ => 0))), (q148, .inl (cA149, 32, .inl (fun _ => 0))), (q150, .inl (cA151, 512, .inl (fun _ => 0))), (q152, .inl (cA153, 32, .inl (fun _ => 0))), (q154, .inl (cA155, 16384, .inl (fun _ => 0))), (q156, .inl (cA157, 16384, .inl (fun _ => 0)))] := hD
  have hK : va_K (dC, dI) cls9 [(cA129, .int), (cA131, .int), (cA133, .int), (cA135, .int), (cA137, .int), (cA139, .int), (cA141, .int), (cA143, .int), (cA145, .int), (cA147, .int), (cA149, .int), (cA151, .int), (cA153, .int), (cA155, .int), (cA157, .int)] s := hK
  refine va_putF (D := (dC, dI)) (ci := 2) (v := .ref q156) (ty := .array .int) (C := "ImageGcdsModel") (T := TM) (N := 25) hx hb hk uM tM tM_ok nM hown hK hP hD hS 0 rfl rfl 20 (by decide) (hk _ k116) (fun _ h9 => h9) rfl hin rfl (by decide +kernel) rfl rfl (Nat.le_of_ble_eq_true rfl) dM_init_129 (fun H locs hP hD hS => ?_)
  have hP : va_P (dC, dI) cls9 [(h0, .inr (2, [.int 0, .int 0, .int 0, .ref q128, .ref q130, .ref q132, .ref q134, .ref q136, .int 0, .int 0, .int 0, .ref q138, .ref q140, .ref q142, .ref q144, .ref q146, .ref q148, .ref q150, .ref q152, .ref q154, .ref q156, .null, .null, .null, .int 0])), (q128, .inl (cA129, 290816, .inl (fun _ => 0))), (q130, .inl (cA131, 16384, .inl (fun _ => 0))), (q132, .inl (cA133, 128, .inl (fun _ => 0))), (q134, .inl (cA135, 128, .inl (fun _ => 0))), (q136, .inl (cA137, 128, .inl (fun _ => 0))), (q138, .inl (cA139, 64, .inl (fun _ => 0))), (q140, .inl (cA141, 64, .inl (fun _ => 0))), (q142, .inl (cA143, 64, .inl (fun _ => 0))), (q144, .inl (cA145, 64, .inl (fun _ => 0))), (q146, .inl (cA147, 2048, .inl (fun _ => 0))), (q148, .inl (cA149, 32, .inl (fun _ => 0))), (q150, .inl (cA151, 512, .inl (fun _ => 0))), (q152, .inl (cA153, 32, .inl (fun _ => 0))), (q154, .inl (cA155, 16384, .inl (fun _ => 0))), (q156, .inl (cA157, 16384, .inl (fun _ => 0)))] H := hP
  have hD : va_D A [(h0, .inr (2, [.int 0, .int 0, .int 0, .ref q128, .ref q130, .ref q132, .ref q134, .ref q136, .int 0, .int 0, .int 0, .ref q138, .ref q140, .ref q142, .ref q144, .ref q146, .ref q148, .ref q150, .ref q152, .ref q154, .ref q156, .null, .null, .null, .int 0])), (q128, .inl (cA129, 290816, .inl (fun _ => 0))), (q130, .inl (cA131, 16384, .inl (fun _ => 0))), (q132, .inl (cA133, 128, .inl (fun _ => 0))), (q134, .inl (cA135, 128, .inl (fun _ => 0))), (q136, .inl (cA137, 128, .inl (fun _ => 0))), (q138, .inl (cA139, 64, .inl (fun _ => 0))), (q140, .inl (cA141, 64, .inl (fun _ => 0))), (q142, .inl (cA143, 64, .inl (fun _ => 0))), (q144, .inl (cA145, 64, .inl (fun _ => 0))), (q146, .inl (cA147, 2048, .inl (fun _ => 0))), (q148, .inl (cA149, 32, .inl (fun _ => 0))), (q150, .inl (cA151, 512, .inl (fun _ => 0))), (q152, .inl (cA153, 32, .inl (fun _ => 0))), (q154, .inl (cA155, 16384, .inl (fun _ => 0))), (q156, .inl (cA157, 16384, .inl (fun _ => 0)))] := hD
  refine lv_aload_n hx hb dM_init_132 rfl (lv_at hl 0 rfl) ?_
  refine lv_sipush (v := 256) hx hb dM_init_133 (by decide) ?_
  refine va_newa (ty := .int) (atype := .int) (a0 := (256, .inl (fun _ => 0))) (N' := 256) hx hb (hk _ k101) rfl hK hP hD hS hA (fun cA => vp_cell_i cA _ _) (by decide +kernel) (by decide +kernel) (by decide +kernel) (Nat.le_of_ble_eq_true rfl) (Nat.le_of_ble_eq_true rfl) dM_init_136 (fun q158 cA159 H hK hP hD hS => ?_)
  have hP : va_P (dC, dI) cls9 [(h0, .inr (2, [.int 0, .int 0, .int 0, .ref q128, .ref q130, .ref q132, .ref q134, .ref q136, .int 0, .int 0, .int 0, .ref q138, .ref q140, .ref q142, .ref q144, .ref q146, .ref q148, .ref q150, .ref q152, .ref q154, .ref q156, .null, .null, .null, .int 0])), (q128, .inl (cA129, 290816, .inl (fun _ => 0))), (q130, .inl (cA131, 16384, .inl (fun _ => 0))), (q132, .inl (cA133, 128, .inl (fun _ => 0))), (q134, .inl (cA135, 128, .inl (fun _ => 0))), (q136, .inl (cA137, 128, .inl (fun _ => 0))), (q138, .inl (cA139, 64, .inl (fun _ => 0))), (q140, .inl (cA141, 64, .inl (fun _ => 0))), (q142, .inl (cA143, 64, .inl (fun _ => 0))), (q144, .inl (cA145, 64, .inl (fun _ => 0))), (q146, .inl (cA147, 2048, .inl (fun _ => 0))), (q148, .inl (cA149, 32, .inl (fun _ => 0))), (q150, .inl (cA151, 512, .inl (fun _ => 0))), (q152, .inl (cA153, 32, .inl (fun _ => 0))), (q154, .inl (cA155, 16384, .inl (fun _ => 0))), (q156, .inl (cA157, 16384, .inl (fun _ => 0))), (q158, .inl (cA159, 256, .inl (fun _ => 0)))] H := hP
  have hD : va_D A [(h0, .inr (2, [.int 0, .int 0, .int 0, .ref q128, .ref q130, .ref q132, .ref q134, .ref q136, .int 0, .int 0, .int 0, .ref q138, .ref q140, .ref q142, .ref q144, .ref q146, .ref q148, .ref q150, .ref q152, .ref q154, .ref q156, .null, .null, .null, .int 0])), (q128, .inl (cA129, 290816, .inl (fun _ => 0))), (q130, .inl (cA131, 16384, .inl (fun _ => 0))), (q132, .inl (cA133, 128, .inl (fun _ => 0))), (q134, .inl (cA135, 128, .inl (fun _ => 0))), (q136, .inl (cA137, 128, .inl (fun _ => 0))), (q138, .inl (cA139, 64, .inl (fun _ => 0))), (q140, .inl (cA141, 64, .inl (fun _ => 0))), (q142, .inl (cA143, 64, .inl (fun _ => 0))), (q144, .inl (cA145, 64, .inl (fun _ => 0))), (q146, .inl (cA147, 2048, .inl (fun _ => 0))), (q148, .inl (cA149, 32, .inl (fun _ => 0))), (q150, .inl (cA151, 512, .inl (fun _ => 0))), (q152, .inl (cA153, 32, .inl (fun _ => 0))), (q154, .inl (cA155, 16384, .inl (fun _ => 0))), (q156, .inl (cA157, 16384, .inl (fun _ => 0))), (q158, .inl (cA159, 256, .inl (fun _ => 0)))] := hD
  have hK : va_K (dC, dI) cls9 [(cA129, .int), (cA131, .int), (cA133, .int), (cA135, .int), (cA137, .int), (cA139, .int), (cA141, .int), (cA143, .int), (cA145, .int), (cA147, .int), (cA149, .int), (cA151, .int), (cA153, .int), (cA155, .int), (cA157, .int), (cA159, .int)] s := hK
  refine va_putF (D := (dC, dI)) (ci := 2) (v := .ref q158) (ty := .array .int) (C := "ImageGcdsModel") (T := TM) (N := 25) hx hb hk uM tM tM_ok nM hown hK hP hD hS 0 rfl rfl 21 (by decide) (hk _ k117) (fun _ h9 => h9) rfl hin rfl (by decide +kernel) rfl rfl (Nat.le_of_ble_eq_true rfl) dM_init_138 (fun H locs hP hD hS => ?_)
  have hP : va_P (dC, dI) cls9 [(h0, .inr (2, [.int 0, .int 0, .int 0, .ref q128, .ref q130, .ref q132, .ref q134, .ref q136, .int 0, .int 0, .int 0, .ref q138, .ref q140, .ref q142, .ref q144, .ref q146, .ref q148, .ref q150, .ref q152, .ref q154, .ref q156, .ref q158, .null, .null, .int 0])), (q128, .inl (cA129, 290816, .inl (fun _ => 0))), (q130, .inl (cA131, 16384, .inl (fun _ => 0))), (q132, .inl (cA133, 128, .inl (fun _ => 0))), (q134, .inl (cA135, 128, .inl (fun _ => 0))), (q136, .inl (cA137, 128, .inl (fun _ => 0))), (q138, .inl (cA139, 64, .inl (fun _ => 0))), (q140, .inl (cA141, 64, .inl (fun _ => 0))), (q142, .inl (cA143, 64, .inl (fun _ => 0))), (q144, .inl (cA145, 64, .inl (fun _ => 0))), (q146, .inl (cA147, 2048, .inl (fun _ => 0))), (q148, .inl (cA149, 32, .inl (fun _ => 0))), (q150, .inl (cA151, 512, .inl (fun _ => 0))), (q152, .inl (cA153, 32, .inl (fun _ => 0))), (q154, .inl (cA155, 16384, .inl (fun _ => 0))), (q156, .inl (cA157, 16384, .inl (fun _ => 0))), (q158, .inl (cA159, 256, .inl (fun _ => 0)))] H := hP
  have hD : va_D A [(h0, .inr (2, [.int 0, .int 0, .int 0, .ref q128, .ref q130, .ref q132, .ref q134, .ref q136, .int 0, .int 0, .int 0, .ref q138, .ref q140, .ref q142, .ref q144, .ref q146, .ref q148, .ref q150, .ref q152, .ref q154, .ref q156, .ref q158, .null, .null, .int 0])), (q128, .inl (cA129, 290816, .inl (fun _ => 0))), (q130, .inl (cA131, 16384, .inl (fun _ => 0))), (q132, .inl (cA133, 128, .inl (fun _ => 0))), (q134, .inl (cA135, 128, .inl (fun _ => 0))), (q136, .inl (cA137, 128, .inl (fun _ => 0))), (q138, .inl (cA139, 64, .inl (fun _ => 0))), (q140, .inl (cA141, 64, .inl (fun _ => 0))), (q142, .inl (cA143, 64, .inl (fun _ => 0))), (q144, .inl (cA145, 64, .inl (fun _ => 0))), (q146, .inl (cA147, 2048, .inl (fun _ => 0))), (q148, .inl (cA149, 32, .inl (fun _ => 0))), (q150, .inl (cA151, 512, .inl (fun _ => 0))), (q152, .inl (cA153, 32, .inl (fun _ => 0))), (q154, .inl (cA155, 16384, .inl (fun _ => 0))), (q156, .inl (cA157, 16384, .inl (fun _ => 0))), (q158, .inl (cA159, 256, .inl (fun _ => 0)))] := hD
  refine lv_aload_n hx hb dM_init_141 rfl (lv_at hl 0 rfl) ?_
  refine lv_sipush (v := 256) hx hb dM_init_142 (by decide) ?_
  refine va_newa (ty := .int) (atype := .int) (a0 := (256, .inl (fun _ => 0))) (N' := 256) hx hb (hk _ k101) rfl hK hP hD hS hA (fun cA => vp_cell_i cA _ _) (by decide +kernel) (by decide +kernel) (by decide +kernel) (Nat.le_of_ble_eq_true rfl) (Nat.le_of_ble_eq_true rfl) dM_init_145 (fun q160 cA161 H hK hP hD hS => ?_)
  have hP : va_P (dC, dI) cls9 [(h0, .inr (2, [.int 0, .int 0, .int 0, .ref q128, .ref q130, .ref q132, .ref q134, .ref q136, .int 0, .int 0, .int 0, .ref q138, .ref q140, .ref q142, .ref q144, .ref q146, .ref q148, .ref q150, .ref q152, .ref q154, .ref q156, .ref q158, .null, .null, .int 0])), (q128, .inl (cA129, 290816, .inl (fun _ => 0))), (q130, .inl (cA131, 16384, .inl (fun _ => 0))), (q132, .inl (cA133, 128, .inl (fun _ => 0))), (q134, .inl (cA135, 128, .inl (fun _ => 0))), (q136, .inl (cA137, 128, .inl (fun _ => 0))), (q138, .inl (cA139, 64, .inl (fun _ => 0))), (q140, .inl (cA141, 64, .inl (fun _ => 0))), (q142, .inl (cA143, 64, .inl (fun _ => 0))), (q144, .inl (cA145, 64, .inl (fun _ => 0))), (q146, .inl (cA147, 2048, .inl (fun _ => 0))), (q148, .inl (cA149, 32, .inl (fun _ => 0))), (q150, .inl (cA151, 512, .inl (fun _ => 0))), (q152, .inl (cA153, 32, .inl (fun _ => 0))), (q154, .inl (cA155, 16384, .inl (fun _ => 0))), (q156, .inl (cA157, 16384, .inl (fun _ => 0))), (q158, .inl (cA159, 256, .inl (fun _ => 0))), (q160, .inl (cA161, 256, .inl (fun _ => 0)))] H := hP
  have hD : va_D A [(h0, .inr (2, [.int 0, .int 0, .int 0, .ref q128, .ref q130, .ref q132, .ref q134, .ref q136, .int 0, .int 0, .int 0, .ref q138, .ref q140, .ref q142, .ref q144, .ref q146, .ref q148, .ref q150, .ref q152, .ref q154, .ref q156, .ref q158, .null, .null, .int 0])), (q128, .inl (cA129, 290816, .inl (fun _ => 0))), (q130, .inl (cA131, 16384, .inl (fun _ => 0))), (q132, .inl (cA133, 128, .inl (fun _ => 0))), (q134, .inl (cA135, 128, .inl (fun _ => 0))), (q136, .inl (cA137, 128, .inl (fun _ => 0))), (q138, .inl (cA139, 64, .inl (fun _ => 0))), (q140, .inl (cA141, 64, .inl (fun _ => 0))), (q142, .inl (cA143, 64, .inl (fun _ => 0))), (q144, .inl (cA145, 64, .inl (fun _ => 0))), (q146, .inl (cA147, 2048, .inl (fun _ => 0))), (q148, .inl (cA149, 32, .inl (fun _ => 0))), (q150, .inl (cA151, 512, .inl (fun _ => 0))), (q152, .inl (cA153, 32, .inl (fun _ => 0))), (q154, .inl (cA155, 16384, .inl (fun _ => 0))), (q156, .inl (cA157, 16384, .inl (fun _ => 0))), (q158, .inl (cA159, 256, .inl (fun _ => 0))), (q160, .inl (cA161, 256, .inl (fun _ => 0)))] := hD
  have hK : va_K (dC, dI) cls9 [(cA129, .int), (cA131, .int), (cA133, .int), (cA135, .int), (cA137, .int), (cA139, .int), (cA141, .int), (cA143, .int), (cA145, .int), (cA147, .int), (cA149, .int), (cA151, .int), (cA153, .int), (cA155, .int), (cA157, .int), (cA159, .int), (cA161, .int)] s := hK
  refine va_putF (D := (dC, dI)) (ci := 2) (v := .ref q160) (ty := .array .int) (C := "ImageGcdsModel") (T := TM) (N := 25) hx hb hk uM tM tM_ok nM hown hK hP hD hS 0 rfl rfl 22 (by decide) (hk _ k118) (fun _ h9 => h9) rfl hin rfl (by decide +kernel) rfl rfl (Nat.le_of_ble_eq_true rfl) dM_init_147 (fun H locs hP hD hS => ?_)
  have hP : va_P (dC, dI) cls9 [(h0, .inr (2, [.int 0, .int 0, .int 0, .ref q128, .ref q130, .ref q132, .ref q134, .ref q136, .int 0, .int 0, .int 0, .ref q138, .ref q140, .ref q142, .ref q144, .ref q146, .ref q148, .ref q150, .ref q152, .ref q154, .ref q156, .ref q158, .ref q160, .null, .int 0])), (q128, .inl (cA129, 290816, .inl (fun _ => 0))), (q130, .inl (cA131, 16384, .inl (fun _ => 0))), (q132, .inl (cA133, 128, .inl (fun _ => 0))), (q134, .inl (cA135, 128, .inl (fun _ => 0))), (q136, .inl (cA137, 128, .inl (fun _ => 0))), (q138, .inl (cA139, 64, .inl (fun _ => 0))), (q140, .inl (cA141, 64, .inl (fun _ => 0))), (q142, .inl (cA143, 64, .inl (fun _ => 0))), (q144, .inl (cA145, 64, .inl (fun _ => 0))), (q146, .inl (cA147, 2048, .inl (fun _ => 0))), (q148, .inl (cA149, 32, .inl (fun _ => 0))), (q150, .inl (cA151, 512, .inl (fun _ => 0))), (q152, .inl (cA153, 32, .inl (fun _ => 0))), (q154, .inl (cA155, 16384, .inl (fun _ => 0))), (q156, .inl (cA157, 16384, .inl (fun _ => 0))), (q158, .inl (cA159, 256, .inl (fun _ => 0))), (q160, .inl (cA161, 256, .inl (fun _ => 0)))] H := hP
  have hD : va_D A [(h0, .inr (2, [.int 0, .int 0, .int 0, .ref q128, .ref q130, .ref q132, .ref q134, .ref q136, .int 0, .int 0, .int 0, .ref q138, .ref q140, .ref q142, .ref q144, .ref q146, .ref q148, .ref q150, .ref q152, .ref q154, .ref q156, .ref q158, .ref q160, .null, .int 0])), (q128, .inl (cA129, 290816, .inl (fun _ => 0))), (q130, .inl (cA131, 16384, .inl (fun _ => 0))), (q132, .inl (cA133, 128, .inl (fun _ => 0))), (q134, .inl (cA135, 128, .inl (fun _ => 0))), (q136, .inl (cA137, 128, .inl (fun _ => 0))), (q138, .inl (cA139, 64, .inl (fun _ => 0))), (q140, .inl (cA141, 64, .inl (fun _ => 0))), (q142, .inl (cA143, 64, .inl (fun _ => 0))), (q144, .inl (cA145, 64, .inl (fun _ => 0))), (q146, .inl (cA147, 2048, .inl (fun _ => 0))), (q148, .inl (cA149, 32, .inl (fun _ => 0))), (q150, .inl (cA151, 512, .inl (fun _ => 0))), (q152, .inl (cA153, 32, .inl (fun _ => 0))), (q154, .inl (cA155, 16384, .inl (fun _ => 0))), (q156, .inl (cA157, 16384, .inl (fun _ => 0))), (q158, .inl (cA159, 256, .inl (fun _ => 0))), (q160, .inl (cA161, 256, .inl (fun _ => 0)))] := hD
  refine lv_aload_n hx hb dM_init_150 rfl (lv_at hl 0 rfl) ?_
  refine lv_sipush (v := 900) hx hb dM_init_151 (by decide) ?_
  refine va_newa (ty := .int) (atype := .int) (a0 := (900, .inl (fun _ => 0))) (N' := 900) hx hb (hk _ k101) rfl hK hP hD hS hA (fun cA => vp_cell_i cA _ _) (by decide +kernel) (by decide +kernel) (by decide +kernel) (Nat.le_of_ble_eq_true rfl) (Nat.le_of_ble_eq_true rfl) dM_init_154 (fun q162 cA163 H hK hP hD hS => ?_)
  have hP : va_P (dC, dI) cls9 [(h0, .inr (2, [.int 0, .int 0, .int 0, .ref q128, .ref q130, .ref q132, .ref q134, .ref q136, .int 0, .int 0, .int 0, .ref q138, .ref q140, .ref q142, .ref q144, .ref q146, .ref q148, .ref q150, .ref q152, .ref q154, .ref q156, .ref q158, .ref q160, .null, .int 0])), (q128, .inl (cA129, 290816, .inl (fun _ => 0))), (q130, .inl (cA131, 16384, .inl (fun _ => 0))), (q132, .inl (cA133, 128, .inl (fun _ => 0))), (q134, .inl (cA135, 128, .inl (fun _ => 0))), (q136, .inl (cA137, 128, .inl (fun _ => 0))), (q138, .inl (cA139, 64, .inl (fun _ => 0))), (q140, .inl (cA141, 64, .inl (fun _ => 0))), (q142, .inl (cA143, 64, .inl (fun _ => 0))), (q144, .inl (cA145, 64, .inl (fun _ => 0))), (q146, .inl (cA147, 2048, .inl (fun _ => 0))), (q148, .inl (cA149, 32, .inl (fun _ => 0))), (q150, .inl (cA151, 512, .inl (fun _ => 0))), (q152, .inl (cA153, 32, .inl (fun _ => 0))), (q154, .inl (cA155, 16384, .inl (fun _ => 0))), (q156, .inl (cA157, 16384, .inl (fun _ => 0))), (q158, .inl (cA159, 256, .inl (fun _ => 0))), (q160, .inl (cA161, 256, .inl (fun _ => 0))), (q162, .inl (cA163, 900, .inl (fun _ => 0)))] H := hP
  have hD : va_D A [(h0, .inr (2, [.int 0, .int 0, .int 0, .ref q128, .ref q130, .ref q132, .ref q134, .ref q136, .int 0, .int 0, .int 0, .ref q138, .ref q140, .ref q142, .ref q144, .ref q146, .ref q148, .ref q150, .ref q152, .ref q154, .ref q156, .ref q158, .ref q160, .null, .int 0])), (q128, .inl (cA129, 290816, .inl (fun _ => 0))), (q130, .inl (cA131, 16384, .inl (fun _ => 0))), (q132, .inl (cA133, 128, .inl (fun _ => 0))), (q134, .inl (cA135, 128, .inl (fun _ => 0))), (q136, .inl (cA137, 128, .inl (fun _ => 0))), (q138, .inl (cA139, 64, .inl (fun _ => 0))), (q140, .inl (cA141, 64, .inl (fun _ => 0))), (q142, .inl (cA143, 64, .inl (fun _ => 0))), (q144, .inl (cA145, 64, .inl (fun _ => 0))), (q146, .inl (cA147, 2048, .inl (fun _ => 0))), (q148, .inl (cA149, 32, .inl (fun _ => 0))), (q150, .inl (cA151, 512, .inl (fun _ => 0))), (q152, .inl (cA153, 32, .inl (fun _ => 0))), (q154, .inl (cA155, 16384, .inl (fun _ => 0))), (q156, .inl (cA157, 16384, .inl (fun _ => 0))), (q158, .inl (cA159, 256, .inl (fun _ => 0))), (q160, .inl (cA161, 256, .inl (fun _ => 0))), (q162, .inl (cA163, 900, .inl (fun _ => 0)))] := hD
  have hK : va_K (dC, dI) cls9 [(cA129, .int), (cA131, .int), (cA133, .int), (cA135, .int), (cA137, .int), (cA139, .int), (cA141, .int), (cA143, .int), (cA145, .int), (cA147, .int), (cA149, .int), (cA151, .int), (cA153, .int), (cA155, .int), (cA157, .int), (cA159, .int), (cA161, .int), (cA163, .int)] s := hK
  refine va_putF (D := (dC, dI)) (ci := 2) (v := .ref q162) (ty := .array .int) (C := "ImageGcdsModel") (T := TM) (N := 25) hx hb hk uM tM tM_ok nM hown hK hP hD hS 0 rfl rfl 23 (by decide) (hk _ k119) (fun _ h9 => h9) rfl hin rfl (by decide +kernel) rfl rfl (Nat.le_of_ble_eq_true rfl) dM_init_156 (fun H locs hP hD hS => ?_)
  have hP : va_P (dC, dI) cls9 [(h0, .inr (2, [.int 0, .int 0, .int 0, .ref q128, .ref q130, .ref q132, .ref q134, .ref q136, .int 0, .int 0, .int 0, .ref q138, .ref q140, .ref q142, .ref q144, .ref q146, .ref q148, .ref q150, .ref q152, .ref q154, .ref q156, .ref q158, .ref q160, .ref q162, .int 0])), (q128, .inl (cA129, 290816, .inl (fun _ => 0))), (q130, .inl (cA131, 16384, .inl (fun _ => 0))), (q132, .inl (cA133, 128, .inl (fun _ => 0))), (q134, .inl (cA135, 128, .inl (fun _ => 0))), (q136, .inl (cA137, 128, .inl (fun _ => 0))), (q138, .inl (cA139, 64, .inl (fun _ => 0))), (q140, .inl (cA141, 64, .inl (fun _ => 0))), (q142, .inl (cA143, 64, .inl (fun _ => 0))), (q144, .inl (cA145, 64, .inl (fun _ => 0))), (q146, .inl (cA147, 2048, .inl (fun _ => 0))), (q148, .inl (cA149, 32, .inl (fun _ => 0))), (q150, .inl (cA151, 512, .inl (fun _ => 0))), (q152, .inl (cA153, 32, .inl (fun _ => 0))), (q154, .inl (cA155, 16384, .inl (fun _ => 0))), (q156, .inl (cA157, 16384, .inl (fun _ => 0))), (q158, .inl (cA159, 256, .inl (fun _ => 0))), (q160, .inl (cA161, 256, .inl (fun _ => 0))), (q162, .inl (cA163, 900, .inl (fun _ => 0)))] H := hP
  have hD : va_D A [(h0, .inr (2, [.int 0, .int 0, .int 0, .ref q128, .ref q130, .ref q132, .ref q134, .ref q136, .int 0, .int 0, .int 0, .ref q138, .ref q140, .ref q142, .ref q144, .ref q146, .ref q148, .ref q150, .ref q152, .ref q154, .ref q156, .ref q158, .ref q160, .ref q162, .int 0])), (q128, .inl (cA129, 290816, .inl (fun _ => 0))), (q130, .inl (cA131, 16384, .inl (fun _ => 0))), (q132, .inl (cA133, 128, .inl (fun _ => 0))), (q134, .inl (cA135, 128, .inl (fun _ => 0))), (q136, .inl (cA137, 128, .inl (fun _ => 0))), (q138, .inl (cA139, 64, .inl (fun _ => 0))), (q140, .inl (cA141, 64, .inl (fun _ => 0))), (q142, .inl (cA143, 64, .inl (fun _ => 0))), (q144, .inl (cA145, 64, .inl (fun _ => 0))), (q146, .inl (cA147, 2048, .inl (fun _ => 0))), (q148, .inl (cA149, 32, .inl (fun _ => 0))), (q150, .inl (cA151, 512, .inl (fun _ => 0))), (q152, .inl (cA153, 32, .inl (fun _ => 0))), (q154, .inl (cA155, 16384, .inl (fun _ => 0))), (q156, .inl (cA157, 16384, .inl (fun _ => 0))), (q158, .inl (cA159, 256, .inl (fun _ => 0))), (q160, .inl (cA161, 256, .inl (fun _ => 0))), (q162, .inl (cA163, 900, .inl (fun _ => 0)))] := hD
  refine lv_aload_n hx hb dM_init_159 rfl (lv_at hl 0 rfl) ?_
  refine lv_iload_n hx hb dM_init_160 rfl (lv_at hl 1 rfl) ?_
  refine lv_iconst (v := 1) hx hb dM_init_161 (by decide) ?_
  refine lv_icmp_ge (tgt := 169) hx hb dM_init_162 (by decide) (fun c164 => ?_) (fun c164 => ?_)
  · skip
    refine lv_iload_n hx hb dM_init_169 rfl (lv_at hl 1 rfl) ?_
    refine lv_iconst (v := 3) hx hb dM_init_170 (by decide) ?_
    refine lv_icmp_le (tgt := 178) hx hb dM_init_171 (by decide) (fun c165 => ?_) (fun c165 => ?_)
    · skip
      refine lv_iload_n hx hb dM_init_178 rfl (lv_at hl 1 rfl) ?_
      refine va_putF (D := (dC, dI)) (ci := 2) (v := .int p0) (ty := .int) (C := "ImageGcdsModel") (T := TM) (N := 25) hx hb hk uM tM tM_ok nM hown hK hP hD hS 0 rfl rfl 1 (by decide) (hk _ k67) (fun _ h9 => h9) rfl hin rfl (by decide +kernel) rfl rfl (Nat.le_of_ble_eq_true rfl) dM_init_179 (fun H locs hP hD hS => ?_)
      have hP : va_P (dC, dI) cls9 [(h0, .inr (2, [.int 0, .int p0, .int 0, .ref q128, .ref q130, .ref q132, .ref q134, .ref q136, .int 0, .int 0, .int 0, .ref q138, .ref q140, .ref q142, .ref q144, .ref q146, .ref q148, .ref q150, .ref q152, .ref q154, .ref q156, .ref q158, .ref q160, .ref q162, .int 0])), (q128, .inl (cA129, 290816, .inl (fun _ => 0))), (q130, .inl (cA131, 16384, .inl (fun _ => 0))), (q132, .inl (cA133, 128, .inl (fun _ => 0))), (q134, .inl (cA135, 128, .inl (fun _ => 0))), (q136, .inl (cA137, 128, .inl (fun _ => 0))), (q138, .inl (cA139, 64, .inl (fun _ => 0))), (q140, .inl (cA141, 64, .inl (fun _ => 0))), (q142, .inl (cA143, 64, .inl (fun _ => 0))), (q144, .inl (cA145, 64, .inl (fun _ => 0))), (q146, .inl (cA147, 2048, .inl (fun _ => 0))), (q148, .inl (cA149, 32, .inl (fun _ => 0))), (q150, .inl (cA151, 512, .inl (fun _ => 0))), (q152, .inl (cA153, 32, .inl (fun _ => 0))), (q154, .inl (cA155, 16384, .inl (fun _ => 0))), (q156, .inl (cA157, 16384, .inl (fun _ => 0))), (q158, .inl (cA159, 256, .inl (fun _ => 0))), (q160, .inl (cA161, 256, .inl (fun _ => 0))), (q162, .inl (cA163, 900, .inl (fun _ => 0)))] H := hP
      have hD : va_D A [(h0, .inr (2, [.int 0, .int p0, .int 0, .ref q128, .ref q130, .ref q132, .ref q134, .ref q136, .int 0, .int 0, .int 0, .ref q138, .ref q140, .ref q142, .ref q144, .ref q146, .ref q148, .ref q150, .ref q152, .ref q154, .ref q156, .ref q158, .ref q160, .ref q162, .int 0])), (q128, .inl (cA129, 290816, .inl (fun _ => 0))), (q130, .inl (cA131, 16384, .inl (fun _ => 0))), (q132, .inl (cA133, 128, .inl (fun _ => 0))), (q134, .inl (cA135, 128, .inl (fun _ => 0))), (q136, .inl (cA137, 128, .inl (fun _ => 0))), (q138, .inl (cA139, 64, .inl (fun _ => 0))), (q140, .inl (cA141, 64, .inl (fun _ => 0))), (q142, .inl (cA143, 64, .inl (fun _ => 0))), (q144, .inl (cA145, 64, .inl (fun _ => 0))), (q146, .inl (cA147, 2048, .inl (fun _ => 0))), (q148, .inl (cA149, 32, .inl (fun _ => 0))), (q150, .inl (cA151, 512, .inl (fun _ => 0))), (q152, .inl (cA153, 32, .inl (fun _ => 0))), (q154, .inl (cA155, 16384, .inl (fun _ => 0))), (q156, .inl (cA157, 16384, .inl (fun _ => 0))), (q158, .inl (cA159, 256, .inl (fun _ => 0))), (q160, .inl (cA161, 256, .inl (fun _ => 0))), (q162, .inl (cA163, 900, .inl (fun _ => 0)))] := hD
      have hP9 := hP.sub (ws' := [(h0, .inr (2, [.int 0, .int p0, .int 0, .ref q128, .ref q130, .ref q132, .ref q134, .ref q136, .int 0, .int 0, .int 0, .ref q138, .ref q140, .ref q142, .ref q144, .ref q146, .ref q148, .ref q150, .ref q152, .ref q154, .ref q156, .ref q158, .ref q160, .ref q162, .int 0])), (q128, .inl (cA129, 290816, .inl (fun _ => 0)))]) [0, 1] rfl
      have hD9 := hD.sub (ws' := [(h0, .inr (2, [.int 0, .int p0, .int 0, .ref q128, .ref q130, .ref q132, .ref q134, .ref q136, .int 0, .int 0, .int 0, .ref q138, .ref q140, .ref q142, .ref q144, .ref q146, .ref q148, .ref q150, .ref q152, .ref q154, .ref q156, .ref q158, .ref q160, .ref q162, .int 0])), (q128, .inl (cA129, 290816, .inl (fun _ => 0)))]) [0, 1] (by decide) rfl
      have hK9 := hK.sub (tys' := [(cA129, .int)]) [0] rfl
      refine W.widen (k := 18) (n := 344644) (Nat.le_of_ble_eq_true rfl) (Nat.le_of_ble_eq_true rfl) ?_
      exact W.vret hx hb hr (fun t ht hW => ⟨⟨(), rfl, trivial, _, _, _, _, _, by rw [ht]; exact hP9, va_K.moved hW.alike hK9, hD9⟩, hS.F ht⟩) hS.2.2 dM_init_182
    · skip
      refine lv_iconst (v := 3) hx hb dM_init_174 (by decide) ?_
      refine lv_goto (tgt := 179) hx hb dM_init_175 (by decide) ?_
      refine va_putF (D := (dC, dI)) (ci := 2) (v := .int 3) (ty := .int) (C := "ImageGcdsModel") (T := TM) (N := 25) hx hb hk uM tM tM_ok nM hown hK hP hD hS 0 rfl rfl 1 (by decide) (hk _ k67) (fun _ h9 => h9) rfl hin rfl (by decide +kernel) rfl rfl (Nat.le_of_ble_eq_true rfl) dM_init_179 (fun H locs hP hD hS => ?_)
      have hP : va_P (dC, dI) cls9 [(h0, .inr (2, [.int 0, .int 3, .int 0, .ref q128, .ref q130, .ref q132, .ref q134, .ref q136, .int 0, .int 0, .int 0, .ref q138, .ref q140, .ref q142, .ref q144, .ref q146, .ref q148, .ref q150, .ref q152, .ref q154, .ref q156, .ref q158, .ref q160, .ref q162, .int 0])), (q128, .inl (cA129, 290816, .inl (fun _ => 0))), (q130, .inl (cA131, 16384, .inl (fun _ => 0))), (q132, .inl (cA133, 128, .inl (fun _ => 0))), (q134, .inl (cA135, 128, .inl (fun _ => 0))), (q136, .inl (cA137, 128, .inl (fun _ => 0))), (q138, .inl (cA139, 64, .inl (fun _ => 0))), (q140, .inl (cA141, 64, .inl (fun _ => 0))), (q142, .inl (cA143, 64, .inl (fun _ => 0))), (q144, .inl (cA145, 64, .inl (fun _ => 0))), (q146, .inl (cA147, 2048, .inl (fun _ => 0))), (q148, .inl (cA149, 32, .inl (fun _ => 0))), (q150, .inl (cA151, 512, .inl (fun _ => 0))), (q152, .inl (cA153, 32, .inl (fun _ => 0))), (q154, .inl (cA155, 16384, .inl (fun _ => 0))), (q156, .inl (cA157, 16384, .inl (fun _ => 0))), (q158, .inl (cA159, 256, .inl (fun _ => 0))), (q160, .inl (cA161, 256, .inl (fun _ => 0))), (q162, .inl (cA163, 900, .inl (fun _ => 0)))] H := hP
      have hD : va_D A [(h0, .inr (2, [.int 0, .int 3, .int 0, .ref q128, .ref q130, .ref q132, .ref q134, .ref q136, .int 0, .int 0, .int 0, .ref q138, .ref q140, .ref q142, .ref q144, .ref q146, .ref q148, .ref q150, .ref q152, .ref q154, .ref q156, .ref q158, .ref q160, .ref q162, .int 0])), (q128, .inl (cA129, 290816, .inl (fun _ => 0))), (q130, .inl (cA131, 16384, .inl (fun _ => 0))), (q132, .inl (cA133, 128, .inl (fun _ => 0))), (q134, .inl (cA135, 128, .inl (fun _ => 0))), (q136, .inl (cA137, 128, .inl (fun _ => 0))), (q138, .inl (cA139, 64, .inl (fun _ => 0))), (q140, .inl (cA141, 64, .inl (fun _ => 0))), (q142, .inl (cA143, 64, .inl (fun _ => 0))), (q144, .inl (cA145, 64, .inl (fun _ => 0))), (q146, .inl (cA147, 2048, .inl (fun _ => 0))), (q148, .inl (cA149, 32, .inl (fun _ => 0))), (q150, .inl (cA151, 512, .inl (fun _ => 0))), (q152, .inl (cA153, 32, .inl (fun _ => 0))), (q154, .inl (cA155, 16384, .inl (fun _ => 0))), (q156, .inl (cA157, 16384, .inl (fun _ => 0))), (q158, .inl (cA159, 256, .inl (fun _ => 0))), (q160, .inl (cA161, 256, .inl (fun _ => 0))), (q162, .inl (cA163, 900, .inl (fun _ => 0)))] := hD
      have hP9 := hP.sub (ws' := [(h0, .inr (2, [.int 0, .int 3, .int 0, .ref q128, .ref q130, .ref q132, .ref q134, .ref q136, .int 0, .int 0, .int 0, .ref q138, .ref q140, .ref q142, .ref q144, .ref q146, .ref q148, .ref q150, .ref q152, .ref q154, .ref q156, .ref q158, .ref q160, .ref q162, .int 0])), (q128, .inl (cA129, 290816, .inl (fun _ => 0)))]) [0, 1] rfl
      have hD9 := hD.sub (ws' := [(h0, .inr (2, [.int 0, .int 3, .int 0, .ref q128, .ref q130, .ref q132, .ref q134, .ref q136, .int 0, .int 0, .int 0, .ref q138, .ref q140, .ref q142, .ref q144, .ref q146, .ref q148, .ref q150, .ref q152, .ref q154, .ref q156, .ref q158, .ref q160, .ref q162, .int 0])), (q128, .inl (cA129, 290816, .inl (fun _ => 0)))]) [0, 1] (by decide) rfl
      have hK9 := hK.sub (tys' := [(cA129, .int)]) [0] rfl
      refine W.widen (k := 18) (n := 344644) (Nat.le_of_ble_eq_true rfl) (Nat.le_of_ble_eq_true rfl) ?_
      exact W.vret hx hb hr (fun t ht hW => ⟨⟨(), rfl, trivial, _, _, _, _, _, by rw [ht]; exact hP9, va_K.moved hW.alike hK9, hD9⟩, hS.F ht⟩) hS.2.2 dM_init_182
  · skip
    refine lv_iconst (v := 1) hx hb dM_init_165 (by decide) ?_
    refine lv_goto (tgt := 179) hx hb dM_init_166 (by decide) ?_
    refine va_putF (D := (dC, dI)) (ci := 2) (v := .int 1) (ty := .int) (C := "ImageGcdsModel") (T := TM) (N := 25) hx hb hk uM tM tM_ok nM hown hK hP hD hS 0 rfl rfl 1 (by decide) (hk _ k67) (fun _ h9 => h9) rfl hin rfl (by decide +kernel) rfl rfl (Nat.le_of_ble_eq_true rfl) dM_init_179 (fun H locs hP hD hS => ?_)
    have hP : va_P (dC, dI) cls9 [(h0, .inr (2, [.int 0, .int 1, .int 0, .ref q128, .ref q130, .ref q132, .ref q134, .ref q136, .int 0, .int 0, .int 0, .ref q138, .ref q140, .ref q142, .ref q144, .ref q146, .ref q148, .ref q150, .ref q152, .ref q154, .ref q156, .ref q158, .ref q160, .ref q162, .int 0])), (q128, .inl (cA129, 290816, .inl (fun _ => 0))), (q130, .inl (cA131, 16384, .inl (fun _ => 0))), (q132, .inl (cA133, 128, .inl (fun _ => 0))), (q134, .inl (cA135, 128, .inl (fun _ => 0))), (q136, .inl (cA137, 128, .inl (fun _ => 0))), (q138, .inl (cA139, 64, .inl (fun _ => 0))), (q140, .inl (cA141, 64, .inl (fun _ => 0))), (q142, .inl (cA143, 64, .inl (fun _ => 0))), (q144, .inl (cA145, 64, .inl (fun _ => 0))), (q146, .inl (cA147, 2048, .inl (fun _ => 0))), (q148, .inl (cA149, 32, .inl (fun _ => 0))), (q150, .inl (cA151, 512, .inl (fun _ => 0))), (q152, .inl (cA153, 32, .inl (fun _ => 0))), (q154, .inl (cA155, 16384, .inl (fun _ => 0))), (q156, .inl (cA157, 16384, .inl (fun _ => 0))), (q158, .inl (cA159, 256, .inl (fun _ => 0))), (q160, .inl (cA161, 256, .inl (fun _ => 0))), (q162, .inl (cA163, 900, .inl (fun _ => 0)))] H := hP
    have hD : va_D A [(h0, .inr (2, [.int 0, .int 1, .int 0, .ref q128, .ref q130, .ref q132, .ref q134, .ref q136, .int 0, .int 0, .int 0, .ref q138, .ref q140, .ref q142, .ref q144, .ref q146, .ref q148, .ref q150, .ref q152, .ref q154, .ref q156, .ref q158, .ref q160, .ref q162, .int 0])), (q128, .inl (cA129, 290816, .inl (fun _ => 0))), (q130, .inl (cA131, 16384, .inl (fun _ => 0))), (q132, .inl (cA133, 128, .inl (fun _ => 0))), (q134, .inl (cA135, 128, .inl (fun _ => 0))), (q136, .inl (cA137, 128, .inl (fun _ => 0))), (q138, .inl (cA139, 64, .inl (fun _ => 0))), (q140, .inl (cA141, 64, .inl (fun _ => 0))), (q142, .inl (cA143, 64, .inl (fun _ => 0))), (q144, .inl (cA145, 64, .inl (fun _ => 0))), (q146, .inl (cA147, 2048, .inl (fun _ => 0))), (q148, .inl (cA149, 32, .inl (fun _ => 0))), (q150, .inl (cA151, 512, .inl (fun _ => 0))), (q152, .inl (cA153, 32, .inl (fun _ => 0))), (q154, .inl (cA155, 16384, .inl (fun _ => 0))), (q156, .inl (cA157, 16384, .inl (fun _ => 0))), (q158, .inl (cA159, 256, .inl (fun _ => 0))), (q160, .inl (cA161, 256, .inl (fun _ => 0))), (q162, .inl (cA163, 900, .inl (fun _ => 0)))] := hD
    have hP9 := hP.sub (ws' := [(h0, .inr (2, [.int 0, .int 1, .int 0, .ref q128, .ref q130, .ref q132, .ref q134, .ref q136, .int 0, .int 0, .int 0, .ref q138, .ref q140, .ref q142, .ref q144, .ref q146, .ref q148, .ref q150, .ref q152, .ref q154, .ref q156, .ref q158, .ref q160, .ref q162, .int 0])), (q128, .inl (cA129, 290816, .inl (fun _ => 0)))]) [0, 1] rfl
    have hD9 := hD.sub (ws' := [(h0, .inr (2, [.int 0, .int 1, .int 0, .ref q128, .ref q130, .ref q132, .ref q134, .ref q136, .int 0, .int 0, .int 0, .ref q138, .ref q140, .ref q142, .ref q144, .ref q146, .ref q148, .ref q150, .ref q152, .ref q154, .ref q156, .ref q158, .ref q160, .ref q162, .int 0])), (q128, .inl (cA129, 290816, .inl (fun _ => 0)))]) [0, 1] (by decide) rfl
    have hK9 := hK.sub (tys' := [(cA129, .int)]) [0] rfl
    refine W.widen (k := 18) (n := 344644) (Nat.le_of_ble_eq_true rfl) (Nat.le_of_ble_eq_true rfl) ?_
    exact W.vret hx hb hr (fun t ht hW => ⟨⟨(), rfl, trivial, _, _, _, _, _, by rw [ht]; exact hP9, va_K.moved hW.alike hK9, hD9⟩, hS.F ht⟩) hS.2.2 dM_init_182
end
section
def nU (dC : Nat → ClassId) (dI : Nat → Nat → Nat) (ws : va_W) (tys : List (ClassId × FieldType)) (sz : Nat) (U : State) : Prop := U.heap.size = sz ∧ va_P (dC, dI) cls9 ws U.heap ∧ va_K (dC, dI) cls9 tys U ∧ va_D (fun _ => True) ws
theorem nBl {dC : Nat → ClassId} {dI : Nat → Nat → Nat} {ws : va_W} {tys : List (ClassId × FieldType)} {sz : Nat} {av : List Value} : FrameBlind (va_Pc av (nU dC dI ws tys sz)) := fun a U g mk q => ⟨q.1, q.2.1, q.2.2.1, va_K.moved (u := U) (U := U.calling g mk a) (Vm.Alike.refl U.vm) q.2.2.2.1, q.2.2.2.2⟩
theorem nPr {dC : Nat → ClassId} {dI : Nat → Nat → Nat} {ws : va_W} {tys : List (ClassId × FieldType)} {av : List Value} {s : State} {H : Heap} {A : Nat → Prop} (hP : va_P (dC, dI) cls9 ws H) (hK : va_K (dC, dI) cls9 tys s) (hD : va_D A ws) : ∀ U : State, U.heap = H → s.WarmedH U.vm → va_Pc av (nU dC dI ws tys H.size) av.toArray U := fun U hU hW => ⟨rfl, by rw [hU], by rw [hU]; exact hP, va_K.moved hW.alike hK, hD.weaken (fun _ _ _ _ => trivial)⟩
abbrev mN (h0 : Nat) (th le co : Int32) (qn : Nat) (fs : List Value) (cA : ClassId) (f : Nat → Int32) : va_W := [(h0, .inr (2, .int th :: .int le :: .int co :: .ref qn :: fs)), (qn, .inl (cA, 290816, .inl f))]
def nT (dC : Nat → ClassId) (dI : Nat → Nat → Nat) (h0 : Nat) (th le co : Int32) (qn : Nat) (fs : List Value) (cA : ClassId) (A : Nat → Prop) (t : State) : Prop := ∃ f : Nat → Int32, va_P (dC, dI) cls9 (mN h0 th le co qn fs cA f) t.heap ∧ va_K (dC, dI) cls9 [(cA, .int)] t ∧ va_D A (mN h0 th le co qn fs cA f)
set_option maxHeartbeats 4000000 in
set_option maxRecDepth 100000 in
theorem lp_clear {p : Program} {l : Launch} {e : Env} {R : Room} {s : State} {m : MethodId} {args : Array Value} {below : List Frame} {meth : Method} {c : Code} {Q : State → Prop} {cells slots : Nat} {dC : Nat → ClassId} {dI : Nat → Nat → Nat} {h0 : Nat} {th le : Int32} {qn : Nat} {fs : List Value} {cA : ClassId} {A : Nat → Prop} (hx : p.tables.exec = Jvm.exec) (hb : c.code = bM_clear) (hk : ∀ w ∈ W0, w.before args s = true) (hown : s.vm.findClass "ImageGcdsModel" = some m.cls) (hK : va_K (dC, dI) cls9 [(cA, .int)] s)
    (hexit : ∀ (f : Nat → Int32) (H : Heap) (locs : List Loc) (ls : Array Slot), va_P (dC, dI) cls9 (mN h0 th le 0 qn fs cA f) H → va_D A (mN h0 th le 0 qn fs cA f) → va_S A s.heap H locs → W p l e R s m args below meth c H locs cells slots Q (F0 m 28 ls [])) :
    ∀ (n i : Nat) (f : Nat → Int32) (H : Heap) (locs : List Loc) (ls : Array Slot), i ≤ 4096 → 4096 < i + n → va_P (dC, dI) cls9 (mN h0 th le 0 qn fs cA f) H → va_D A (mN h0 th le 0 qn fs cA f) → va_S A s.heap H locs → lv_has ls 3 [(2, .int (nI i)), (0, .ref h0), (1, .int 66)] → W p l e R s m args below meth c H locs cells slots Q (F0 m 2 ls []) := by
  intro n
  induction n with
  | zero => intro i f H locs ls h1 h2; exact absurd h2 (by omega)
  | succ n ih =>
    intro i f H locs ls hi hin hP hD hS hl
    refine lv_iload_n hx hb dM_clear_2 rfl (lv_at hl 0 rfl) ?_
    refine lv_sipush (v := 4096) hx hb dM_clear_3 (by decide) ?_
    refine lv_icmp_ge (tgt := 28) hx hb dM_clear_6 (by decide) (fun c1 => ?_) (fun c1 => ?_)
    · exact hexit f H locs ls hP hD hS
    · have hlt : i < 4096 := by
        rcases Nat.lt_or_ge i 4096 with q | q
        · exact q
        · exact absurd (show nI 4096 ≤ nI i from nI_le q (by omega)) c1
      refine lv_aload_n hx hb dM_clear_9 rfl (lv_at hl 1 rfl) ?_
      refine va_get (D := (dC, dI)) (ci := 2) (v := .ref qn) (C := "ImageGcdsModel") (T := TM) (N := 25) hx hb hk uM hown hK hP 0 rfl rfl 3 (by decide) (hk _ k102) (fun _ h9 => h9) rfl dM_clear_10 ?_
      refine lv_sipush (v := 4096) hx hb dM_clear_13 (by decide) ?_
      refine lv_iload_n hx hb dM_clear_16 rfl (lv_at hl 2 rfl) ?_
      refine lv_imul hx hb dM_clear_17 ?_
      refine lv_iload_n hx hb dM_clear_18 rfl (lv_at hl 0 rfl) ?_
      refine lv_iadd hx hb dM_clear_19 ?_
      refine lv_topi (fun x1 ex1 => ?_)
      have gx1 : x1 = nI (270336 + i) := by
        rw [ex1, show ((4096 : Int32) * 66) = nI 270336 by decide, nI_add]
      subst gx1
      have nx1 : vp_in (nI (270336 + i)) 290816 := vp_in_nI (by omega) (by decide)
      refine lv_iconst (v := 0) hx hb dM_clear_20 (by decide) ?_
      refine va_iast hx hb hK hP hD hS 1 0 rfl rfl nx1 dM_clear_21 (fun H locs hP hD hS => ?_)
      refine lv_iinc (v := nI (i + 1)) (lv' := [(2, .int (nI (i + 1))), (0, .ref h0), (1, .int 66)]) hx hb dM_clear_22 hl (k := 0) rfl (nI_succ i).symm (by decide) rfl (fun ls hl => ?_)
      refine lv_goto (tgt := 2) hx hb dM_clear_25 (by decide) ?_
      exact ih (i + 1) _ H locs ls (by omega) (by omega) hP hD hS hl
set_option maxHeartbeats 4000000 in
set_option maxRecDepth 100000 in
theorem cM_clear (l : Launch) (dC : Nat → ClassId) (dI : Nat → Nat → Nat) (h0 : Nat) (th le : Int32) (qn : Nat) (fs : List Value) (cA : ClassId) (f : Nat → Int32) (sz : Nat) : Met l yM_clear wM_clear ({ frames := 0, cells := 0, slots := 0, locals := 0 }) (va_Pc [.ref h0, .int 66] (nU dC dI (mN h0 th le 0 qn fs cA f) [(cA, .int)] sz)) (va_Qv (fun _ : Unit => True) (fun _ t => nT dC dI h0 th le 0 qn fs cA (va_A (mN h0 th le 0 qn fs cA f) sz) t) (va_A (mN h0 th le 0 qn fs cA f) sz)) 0 0 (va_A (mN h0 th le 0 qn fs cA f) sz) := by
  refine Met.ofW (cc := bM_clear) (maxL := 3) (ret := none) (by decide) rfl ?_
  intro p e s m args below meth c s₁ B hml hv
  obtain ⟨rfl, hsz, hP, hK, hD0⟩ := hv
  have hx := B.exec
  have hb := B.bytes
  have hr := B.returns
  have hts := atoms_spec (ws := wM_clear) B.pre
  have hk : ∀ w ∈ W0, w.before _ s = true := fun w h => hts w (List.mem_cons_of_mem _ h)
  have hown : s.vm.findClass "ImageGcdsModel" = some m.cls := findClass_of_methodNamed B.named
  have hlocks := B.notSynchronized
  subst hsz
  have hD := hD0.self (sz := s.heap.size)
  generalize va_A (mN h0 th le 0 qn fs cA f) s.heap.size = A at hD ⊢
  have hS : va_S A s.heap s.heap [] := va_S.rf
  have hl := lv_entry ([.ref h0, .int 66]) (n := 3) (Nat.le_of_ble_eq_true rfl)
  rw [lg_entry_eq]
  generalize (lg_sl ([.ref h0, .int 66]) ++ List.replicate (3 - (lg_sl ([.ref h0, .int 66])).length) Slot.unset).toArray = ls at hl ⊢
  have hl : lv_has ls 3 [(0, .ref h0), (1, .int 66)] := hl
  refine lv_iconst (v := 0) hx hb dM_clear_0 (by decide) ?_
  refine lv_istore_n (lv' := [(2, .int 0), (0, .ref h0), (1, .int 66)]) hx hb dM_clear_1 rfl hl (by decide) rfl (fun ls hl => ?_)
  exact lp_clear hx hb hk hown hK (fun f2 H locs ls hP hD hS => W.vret hx hb hr (fun t ht hW => ⟨⟨(), rfl, trivial, f2, by rw [ht]; exact hP, va_K.moved hW.alike hK, hD⟩, hS.F ht⟩) hS.2.2 dM_clear_28) 4097 0 f _ _ ls (Nat.zero_le _) (by decide) hP hD hS hl
set_option maxHeartbeats 4000000 in
set_option maxRecDepth 100000 in
theorem lp_copy {p : Program} {l : Launch} {e : Env} {R : Room} {s : State} {m : MethodId} {args : Array Value} {below : List Frame} {meth : Method} {c : Code} {Q : State → Prop} {cells slots : Nat} {dC : Nat → ClassId} {dI : Nat → Nat → Nat} {h0 : Nat} {th le : Int32} {qn : Nat} {fs : List Value} {cA : ClassId} {A : Nat → Prop} (hx : p.tables.exec = Jvm.exec) (hb : c.code = bM_copy) (hk : ∀ w ∈ W0, w.before args s = true) (hown : s.vm.findClass "ImageGcdsModel" = some m.cls) (hK : va_K (dC, dI) cls9 [(cA, .int)] s)
    (hexit : ∀ (f : Nat → Int32) (H : Heap) (locs : List Loc) (ls : Array Slot), va_P (dC, dI) cls9 (mN h0 th le 0 qn fs cA f) H → va_D A (mN h0 th le 0 qn fs cA f) → va_S A s.heap H locs → W p l e R s m args below meth c H locs cells slots Q (F0 m 39 ls [])) :
    ∀ (n i : Nat) (f : Nat → Int32) (H : Heap) (locs : List Loc) (ls : Array Slot), i ≤ 4096 → 4096 < i + n → va_P (dC, dI) cls9 (mN h0 th le 0 qn fs cA f) H → va_D A (mN h0 th le 0 qn fs cA f) → va_S A s.heap H locs → lv_has ls 4 [(3, .int (nI i)), (0, .ref h0), (1, .int 66), (2, .int 0)] → W p l e R s m args below meth c H locs cells slots Q (F0 m 2 ls []) := by
  intro n
  induction n with
  | zero => intro i f H locs ls h1 h2; exact absurd h2 (by omega)
  | succ n ih =>
    intro i f H locs ls hi hin hP hD hS hl
    refine lv_iload_n hx hb dM_copy_2 rfl (lv_at hl 0 rfl) ?_
    refine lv_sipush (v := 4096) hx hb dM_copy_3 (by decide) ?_
    refine lv_icmp_ge (tgt := 39) hx hb dM_copy_6 (by decide) (fun c1 => ?_) (fun c1 => ?_)
    · exact hexit f H locs ls hP hD hS
    · have hlt : i < 4096 := by
        rcases Nat.lt_or_ge i 4096 with q | q
        · exact q
        · exact absurd (show nI 4096 ≤ nI i from nI_le q (by omega)) c1
      refine lv_aload_n hx hb dM_copy_9 rfl (lv_at hl 1 rfl) ?_
      refine va_get (D := (dC, dI)) (ci := 2) (v := .ref qn) (C := "ImageGcdsModel") (T := TM) (N := 25) hx hb hk uM hown hK hP 0 rfl rfl 3 (by decide) (hk _ k102) (fun _ h9 => h9) rfl dM_copy_10 ?_
      refine lv_sipush (v := 4096) hx hb dM_copy_13 (by decide) ?_
      refine lv_iload_n hx hb dM_copy_16 rfl (lv_at hl 3 rfl) ?_
      refine lv_imul hx hb dM_copy_17 ?_
      refine lv_iload_n hx hb dM_copy_18 rfl (lv_at hl 0 rfl) ?_
      refine lv_iadd hx hb dM_copy_19 ?_
      refine lv_topi (fun x1 ex1 => ?_)
      have gx1 : x1 = nI (0 + i) := by
        rw [ex1, show ((4096 : Int32) * 0) = nI 0 by decide, nI_add]
      subst gx1
      have nx1 : vp_in (nI (0 + i)) 290816 := vp_in_nI (by omega) (by decide)
      refine lv_aload_n hx hb dM_copy_20 rfl (lv_at hl 1 rfl) ?_
      refine va_get (D := (dC, dI)) (ci := 2) (v := .ref qn) (C := "ImageGcdsModel") (T := TM) (N := 25) hx hb hk uM hown hK hP 0 rfl rfl 3 (by decide) (hk _ k102) (fun _ h9 => h9) rfl dM_copy_21 ?_
      refine lv_sipush (v := 4096) hx hb dM_copy_24 (by decide) ?_
      refine lv_iload_n hx hb dM_copy_27 rfl (lv_at hl 2 rfl) ?_
      refine lv_imul hx hb dM_copy_28 ?_
      refine lv_iload_n hx hb dM_copy_29 rfl (lv_at hl 0 rfl) ?_
      refine lv_iadd hx hb dM_copy_30 ?_
      refine lv_topi (fun x2 ex2 => ?_)
      have gx2 : x2 = nI (270336 + i) := by
        rw [ex2, show ((4096 : Int32) * 66) = nI 270336 by decide, nI_add]
      subst gx2
      have nx2 : vp_in (nI (270336 + i)) 290816 := vp_in_nI (by omega) (by decide)
      refine va_iald hx hb hK hP 1 0 rfl rfl nx2 dM_copy_31 ?_
      refine lv_topi (fun z ez => ?_)
      refine va_iast hx hb hK hP hD hS 1 0 rfl rfl nx1 dM_copy_32 (fun H locs hP hD hS => ?_)
      refine lv_iinc (v := nI (i + 1)) (lv' := [(3, .int (nI (i + 1))), (0, .ref h0), (1, .int 66), (2, .int 0)]) hx hb dM_copy_33 hl (k := 0) rfl (nI_succ i).symm (by decide) rfl (fun ls hl => ?_)
      refine lv_goto (tgt := 2) hx hb dM_copy_36 (by decide) ?_
      exact ih (i + 1) _ H locs ls (by omega) (by omega) hP hD hS hl
set_option maxHeartbeats 4000000 in
set_option maxRecDepth 100000 in
theorem cM_copy (l : Launch) (dC : Nat → ClassId) (dI : Nat → Nat → Nat) (h0 : Nat) (th le : Int32) (qn : Nat) (fs : List Value) (cA : ClassId) (f : Nat → Int32) (sz : Nat) : Met l yM_copy wM_copy ({ frames := 0, cells := 0, slots := 0, locals := 0 }) (va_Pc [.ref h0, .int 66, .int 0] (nU dC dI (mN h0 th le 0 qn fs cA f) [(cA, .int)] sz)) (va_Qv (fun _ : Unit => True) (fun _ t => nT dC dI h0 th le 0 qn fs cA (va_A (mN h0 th le 0 qn fs cA f) sz) t) (va_A (mN h0 th le 0 qn fs cA f) sz)) 0 0 (va_A (mN h0 th le 0 qn fs cA f) sz) := by
  refine Met.ofW (cc := bM_copy) (maxL := 4) (ret := none) (by decide) rfl ?_
  intro p e s m args below meth c s₁ B hml hv
  obtain ⟨rfl, hsz, hP, hK, hD0⟩ := hv
  have hx := B.exec
  have hb := B.bytes
  have hr := B.returns
  have hts := atoms_spec (ws := wM_copy) B.pre
  have hk : ∀ w ∈ W0, w.before _ s = true := fun w h => hts w (List.mem_cons_of_mem _ h)
  have hown : s.vm.findClass "ImageGcdsModel" = some m.cls := findClass_of_methodNamed B.named
  have hlocks := B.notSynchronized
  subst hsz
  have hD := hD0.self (sz := s.heap.size)
  generalize va_A (mN h0 th le 0 qn fs cA f) s.heap.size = A at hD ⊢
  have hS : va_S A s.heap s.heap [] := va_S.rf
  have hl := lv_entry ([.ref h0, .int 66, .int 0]) (n := 4) (Nat.le_of_ble_eq_true rfl)
  rw [lg_entry_eq]
  generalize (lg_sl ([.ref h0, .int 66, .int 0]) ++ List.replicate (4 - (lg_sl ([.ref h0, .int 66, .int 0])).length) Slot.unset).toArray = ls at hl ⊢
  have hl : lv_has ls 4 [(0, .ref h0), (1, .int 66), (2, .int 0)] := hl
  refine lv_iconst (v := 0) hx hb dM_copy_0 (by decide) ?_
  refine lv_istore_n (lv' := [(3, .int 0), (0, .ref h0), (1, .int 66), (2, .int 0)]) hx hb dM_copy_1 rfl hl (by decide) rfl (fun ls hl => ?_)
  exact lp_copy hx hb hk hown hK (fun f2 H locs ls hP hD hS => W.vret hx hb hr (fun t ht hW => ⟨⟨(), rfl, trivial, f2, by rw [ht]; exact hP, va_K.moved hW.alike hK, hD⟩, hS.F ht⟩) hS.2.2 dM_copy_39) 4097 0 f _ _ ls (Nat.zero_le _) (by decide) hP hD hS hl
set_option maxHeartbeats 4000000 in
set_option maxRecDepth 100000 in
theorem cM_thrown9 (l : Launch) (dC : Nat → ClassId) (dI : Nat → Nat → Nat) (h0 : Nat) (th le co : Int32) (fs : List Value) (sz : Nat) : Met l yM_thrown wM_thrown ({ frames := 0, cells := 0, slots := 0, locals := 0 }) (va_Pc [.ref h0] (nU dC dI (mW h0 th le co fs) [] sz)) (vp_Si (fun r => r = th)) 0 0 (fun _ => False) := by
  refine Met.ofW (cc := bM_thrown) (maxL := 1) (ret := (some .int)) (by decide) rfl ?_
  intro p e s m args below meth c s₁ B hml hv
  obtain ⟨rfl, hsz, hP, hK, hD0⟩ := hv
  have hx := B.exec
  have hb := B.bytes
  have hr := B.returns
  have hts := atoms_spec (ws := wM_thrown) B.pre
  have hk : ∀ w ∈ W0, w.before _ s = true := fun w h => hts w (List.mem_cons_of_mem _ h)
  have hown : s.vm.findClass "ImageGcdsModel" = some m.cls := findClass_of_methodNamed B.named
  have hlocks := B.notSynchronized
  have hl := lv_entry ([.ref h0]) (n := 1) (Nat.le_of_ble_eq_true rfl)
  rw [lg_entry_eq]
  generalize (lg_sl ([.ref h0]) ++ List.replicate (1 - (lg_sl ([.ref h0])).length) Slot.unset).toArray = ls at hl ⊢
  have hl : lv_has ls 1 [(0, .ref h0)] := hl
  refine lv_aload_n hx hb dM_thrown_0 rfl (lv_at hl 0 rfl) ?_
  refine va_get (D := (dC, dI)) (ci := 2) (v := .int th) (C := "ImageGcdsModel") (T := TM) (N := 25) hx hb hk uM hown hK hP 0 rfl rfl 0 (by decide) (hk _ k73) (fun _ h9 => h9) rfl dM_thrown_1 ?_
  exact W.iret (v := th) hx hb hr (fun t ht hW => ⟨_, rfl, rfl, ht⟩) (fun q h => nomatch h) dM_thrown_4
set_option maxHeartbeats 4000000 in
set_option maxRecDepth 100000 in
theorem cM_made (l : Launch) (dC : Nat → ClassId) (dI : Nat → Nat → Nat) (h0 : Nat) (th le : Int32) (qn : Nat) (fs : List Value) (cA : ClassId) (f : Nat → Int32) (sz : Nat) : Met l yM_made wM_made ({ frames := 1, cells := 0, slots := 0, locals := 30 }) (va_Pc [.ref h0, .int 66] (nU dC dI (mN h0 th le 0 qn fs cA f) [(cA, .int)] sz)) (va_Qi (fun (r : Int32) (_ : Unit) => r = 0) (fun _ t => nT dC dI h0 th le 1 qn fs cA (va_A (mN h0 th le 0 qn fs cA f) sz) t) (va_A (mN h0 th le 0 qn fs cA f) sz)) 0 0 (va_A (mN h0 th le 0 qn fs cA f) sz) := by
  refine Met.ofW (cc := bM_made) (maxL := 2) (ret := (some .int)) (by decide) rfl ?_
  intro p e s m args below meth c s₁ B hml hv
  obtain ⟨rfl, hsz, hP, hK, hD0⟩ := hv
  have hx := B.exec
  have hb := B.bytes
  have hr := B.returns
  have hts := atoms_spec (ws := wM_made) B.pre
  have hk : ∀ w ∈ W0, w.before _ s = true := fun w h => hts w (List.mem_cons_of_mem _ h)
  have hown : s.vm.findClass "ImageGcdsModel" = some m.cls := findClass_of_methodNamed B.named
  have hlocks := B.notSynchronized
  subst hsz
  have hD := hD0.self (sz := s.heap.size)
  generalize hAe : va_A (mN h0 th le 0 qn fs cA f) s.heap.size = A at hD ⊢
  have hA : ∀ q : Nat, s.heap.size ≤ q → A q := fun q h => by rw [← hAe]; exact Or.inr h
  have hS : va_S A s.heap s.heap [] := va_S.rf
  have hl := lv_entry ([.ref h0, .int 66]) (n := 2) (Nat.le_of_ble_eq_true rfl)
  rw [lg_entry_eq]
  generalize (lg_sl ([.ref h0, .int 66]) ++ List.replicate (2 - (lg_sl ([.ref h0, .int 66])).length) Slot.unset).toArray = ls at hl ⊢
  have hl : lv_has ls 2 [(0, .ref h0), (1, .int 66)] := hl
  refine lv_aload_n hx hb dM_made_0 rfl (lv_at hl 0 rfl) ?_
  refine lv_iload_n hx hb dM_made_1 rfl (lv_at hl 1 rfl) ?_
  refine lv_aload_n hx hb dM_made_2 rfl (lv_at hl 0 rfl) ?_
  refine va_get (D := (dC, dI)) (ci := 2) (v := .int 0) (C := "ImageGcdsModel") (T := TM) (N := 25) hx hb hk uM hown hK hP 0 rfl rfl 2 (by decide) (hk _ k66) (fun _ h9 => h9) rfl dM_made_3 ?_
  have hFc := va_free (wc := (mN h0 th le 0 qn fs cA f)) hD hS hA [0, 1] rfl
  refine va_callv (va_runV (As := [.int 66, .int 0]) (rest := []) ⟨hx, hb, hml, hown, hk⟩ (cM_copy l dC dI h0 th le qn fs cA f _) (cwV 2 hk (gV k124 k125 k126 k71 k127) rfl rfl rfl (by decide +kernel) ⟨Nat.le_of_ble_eq_true rfl, Nat.le_of_ble_eq_true rfl⟩) ⟨nBl, va_recv hK hP (ci := 2) (q0 := 0) rfl rfl, nPr hP hK hD⟩ rfl rfl hl.1 rfl (lv_room (Nat.le_of_ble_eq_true rfl)) dM_made_6 ⟨Nat.le_of_ble_eq_true rfl, Nat.le_of_ble_eq_true rfl⟩) hS (fun q _ h => hFc q h) hFc (fun u t H1 locs ht hvm hw hB hz1 hk1 hS => ?_)
  obtain ⟨f2, hP1, hK1, hD1⟩ := hB
  rw [ht] at hP1
  obtain ⟨hP, hD⟩ := va_join (wr := []) (w1 := (mN h0 th le 0 qn fs cA f2)) hP hD [0, 1] [] rfl rfl (by decide) (by decide) hk1 hFc hP1 hD1
  generalize H1 = H at hP hS ⊢
  have hP : va_P (dC, dI) cls9 (mN h0 th le 0 qn fs cA f2) H := hP
  have hD : va_D A (mN h0 th le 0 qn fs cA f2) := hD
  refine lv_aload_n hx hb dM_made_9 rfl (lv_at hl 0 rfl) ?_
  refine lv_dup hx hb dM_made_10 rfl ?_
  refine va_get (D := (dC, dI)) (ci := 2) (v := .int 0) (C := "ImageGcdsModel") (T := TM) (N := 25) hx hb hk uM hown hK hP 0 rfl rfl 2 (by decide) (hk _ k66) (fun _ h9 => h9) rfl dM_made_11 ?_
  refine lv_iconst (v := 1) hx hb dM_made_14 (by decide) ?_
  refine lv_iadd hx hb dM_made_15 ?_
  refine lv_topi (fun v1 ev1 => ?_)
  have ev1 : v1 = 1 := ev1.trans (by decide)
  subst ev1
  refine va_put (D := (dC, dI)) (ci := 2) (v := .int 1) (ty := .int) (C := "ImageGcdsModel") (T := TM) (N := 25) hx hb hk uM tM tM_ok nM hown hK hP hD hS 0 rfl rfl 2 (by decide) (hk _ k66) (fun _ h9 => h9) rfl (by decide +kernel) rfl rfl (by simp) dM_made_16 (fun H locs hP hD hS => ?_)
  have hP : va_P (dC, dI) cls9 (mN h0 th le 1 qn fs cA f2) H := hP
  have hD : va_D A (mN h0 th le 1 qn fs cA f2) := hD
  refine lv_aload_n hx hb dM_made_19 rfl (lv_at hl 0 rfl) ?_
  refine va_get (D := (dC, dI)) (ci := 2) (v := .int 1) (C := "ImageGcdsModel") (T := TM) (N := 25) hx hb hk uM hown hK hP 0 rfl rfl 2 (by decide) (hk _ k66) (fun _ h9 => h9) rfl dM_made_20 ?_
  refine lv_iconst (v := 1) hx hb dM_made_23 (by decide) ?_
  refine lv_isub hx hb dM_made_24 ?_
  refine lv_topi (fun v2 ev2 => ?_)
  have ev2 : v2 = 0 := ev2.trans (by decide)
  subst ev2
  exact W.iret (v := 0) hx hb hr (fun t ht hW => ⟨⟨0, (), rfl, rfl, f2, by rw [ht]; exact hP, va_K.moved hW.alike hK, hD⟩, hS.F ht⟩) hS.2.2 dM_made_25
set_option maxHeartbeats 4000000 in
set_option maxRecDepth 100000 in
theorem cM_poly (l : Launch) (dC : Nat → ClassId) (dI : Nat → Nat → Nat) (h0 : Nat) (th le : Int32) (qn : Nat) (fs : List Value) (cA : ClassId) (f : Nat → Int32) (sz : Nat) : Met l yM_poly wM_poly ({ frames := 2, cells := 0, slots := 0, locals := 60 }) (va_Pc [.ref h0] (nU dC dI (mN h0 th le 0 qn fs cA f) [(cA, .int)] sz)) (va_Qi (fun (r : Int32) (_ : Unit) => r = 0) (fun _ t => nT dC dI h0 0 le 1 qn fs cA (va_A (mN h0 th le 0 qn fs cA f) sz) t) (va_A (mN h0 th le 0 qn fs cA f) sz)) 0 0 (va_A (mN h0 th le 0 qn fs cA f) sz) := by
  refine Met.ofW (cc := bM_poly) (maxL := 1) (ret := (some .int)) (by decide) rfl ?_
  intro p e s m args below meth c s₁ B hml hv
  obtain ⟨rfl, hsz, hP, hK, hD0⟩ := hv
  have hx := B.exec
  have hb := B.bytes
  have hr := B.returns
  have hts := atoms_spec (ws := wM_poly) B.pre
  have hk : ∀ w ∈ W0, w.before _ s = true := fun w h => hts w (List.mem_cons_of_mem _ h)
  have hown : s.vm.findClass "ImageGcdsModel" = some m.cls := findClass_of_methodNamed B.named
  have hlocks := B.notSynchronized
  subst hsz
  have hD := hD0.self (sz := s.heap.size)
  generalize hAe : va_A (mN h0 th le 0 qn fs cA f) s.heap.size = A at hD ⊢
  have hA : ∀ q : Nat, s.heap.size ≤ q → A q := fun q h => by rw [← hAe]; exact Or.inr h
  have hS : va_S A s.heap s.heap [] := va_S.rf
  have hl := lv_entry ([.ref h0]) (n := 1) (Nat.le_of_ble_eq_true rfl)
  rw [lg_entry_eq]
  generalize (lg_sl ([.ref h0]) ++ List.replicate (1 - (lg_sl ([.ref h0])).length) Slot.unset).toArray = ls at hl ⊢
  have hl : lv_has ls 1 [(0, .ref h0)] := hl
  refine lv_aload_n hx hb dM_poly_0 rfl (lv_at hl 0 rfl) ?_
  refine lv_aload_n hx hb dM_poly_1 rfl (lv_at hl 0 rfl) ?_
  have hP0 := hP.sub (ws' := mW h0 th le 0 (.ref qn :: fs)) [0] rfl
  have hK0 := hK.sub (tys' := []) [] rfl
  refine vp_callSi (W.runV (As := []) (rest := [.ref h0]) ⟨hx, hb, hml, hown, hk⟩ (cM_isFull l dC dI h0 th le (.ref qn :: fs)) (cwV 0 hk (gV k85 k86 k87 k71 k88) rfl rfl rfl (by decide +kernel) ⟨Nat.le_of_ble_eq_true rfl, Nat.le_of_ble_eq_true rfl⟩) ⟨mB, va_recv hK0 hP0 (ci := 2) (q0 := 0) rfl rfl, mP hP0 hK0⟩ rfl rfl hl.1 rfl (lv_room (Nat.le_of_ble_eq_true rfl)) dM_poly_2 ⟨Nat.le_of_ble_eq_true rfl, Nat.le_of_ble_eq_true rfl⟩) (fun r1 hw => ?_)
  subst hw
  refine lv_iconst (v := 0) hx hb dM_poly_5 (by decide) ?_
  refine lv_iconst (v := 0) hx hb dM_poly_6 (by decide) ?_
  have hA0 : A h0 := hD.2 0 _ rfl
  have hne : ¬ qn = h0 := fun q => absurd (hD.1 1 0 _ _ rfl rfl q) (by decide)
  refine va_calli (va_runV (As := [.int 0, .int 0, .int 0]) (rest := []) ⟨hx, hb, hml, hown, hk⟩ (cM_fails0 l dC dI h0 th le (.ref qn :: fs)) (cwV 3 hk (gV k77 k78 k79 k71 k80) rfl rfl rfl (by decide +kernel) ⟨Nat.le_of_ble_eq_true rfl, Nat.le_of_ble_eq_true rfl⟩) ⟨mB, va_recv hK0 hP0 (ci := 2) (q0 := 0) rfl rfl, mP hP0 hK0⟩ rfl rfl hl.1 rfl (lv_room (Nat.le_of_ble_eq_true rfl)) dM_poly_7 ⟨Nat.le_of_ble_eq_true rfl, Nat.le_of_ble_eq_true rfl⟩) hS (fun q _ h => by rw [h]; exact hA0) (fun q h => by rw [h]; exact hA0) (fun r2 _ t H1 locs ht hvm hw hB hz1 hk1 hS => ?_)
  subst hw
  obtain ⟨hPo, hKo⟩ := hB
  rw [ht] at hPo
  have hPa : va_P (dC, dI) cls9 [(qn, .inl (cA, 290816, .inl f))] H1 := fun j x hx => by
    match j, hx with
    | 0, hx => cases hx; exact (hP 1 _ rfl).kept (hk1 qn (hP 1 _ rfl).lt hne)
    | j + 1, hx => simp at hx
  have hP : va_P (dC, dI) cls9 (mN h0 0 le 0 qn fs cA f) H1 := hPo.app hPa
  have hD : va_D A (mN h0 0 le 0 qn fs cA f) := hD.set (p := 0) (e := .inr (2, .int 0 :: .int le :: .int 0 :: .ref qn :: fs)) rfl
  generalize H1 = H at hP hS ⊢
  refine lv_if_eq (tgt := 15) hx hb dM_poly_10 (by decide) (fun c1 => ?_) (fun c1 => ?_)
  · skip
    refine lv_aload_n hx hb dM_poly_15 rfl (lv_at hl 0 rfl) ?_
    refine lv_bipush (v := 66) hx hb dM_poly_16 (by decide) ?_
    have hFc := va_free (wc := (mN h0 0 le 0 qn fs cA f)) hD hS hA [0, 1] rfl
    refine va_callv (va_runV (As := [.int 66]) (rest := []) ⟨hx, hb, hml, hown, hk⟩ (cM_clear l dC dI h0 0 le qn fs cA f _) (cwV 1 hk (gV k128 k129 k130 k71 k131) rfl rfl rfl (by decide +kernel) ⟨Nat.le_of_ble_eq_true rfl, Nat.le_of_ble_eq_true rfl⟩) ⟨nBl, va_recv hK hP (ci := 2) (q0 := 0) rfl rfl, nPr hP hK hD⟩ rfl rfl hl.1 rfl (lv_room (Nat.le_of_ble_eq_true rfl)) dM_poly_18 ⟨Nat.le_of_ble_eq_true rfl, Nat.le_of_ble_eq_true rfl⟩) hS (fun q _ h => hFc q h) hFc (fun u t H1 locs ht hvm hw hB hz1 hk1 hS => ?_)
    obtain ⟨f2, hP1, hK1, hD1⟩ := hB
    rw [ht] at hP1
    obtain ⟨hP, hD⟩ := va_join (wr := []) (w1 := (mN h0 0 le 0 qn fs cA f2)) hP hD [0, 1] [] rfl rfl (by decide) (by decide) hk1 hFc hP1 hD1
    generalize H1 = H at hP hS ⊢
    have hP : va_P (dC, dI) cls9 (mN h0 0 le 0 qn fs cA f2) H := hP
    have hD : va_D A (mN h0 0 le 0 qn fs cA f2) := hD
    refine lv_aload_n hx hb dM_poly_21 rfl (lv_at hl 0 rfl) ?_
    refine lv_bipush (v := 66) hx hb dM_poly_22 (by decide) ?_
    have hFc := va_free (wc := (mN h0 0 le 0 qn fs cA f2)) hD hS hA [0, 1] rfl
    refine va_calli (va_runV (As := [.int 66]) (rest := []) ⟨hx, hb, hml, hown, hk⟩ (cM_made l dC dI h0 0 le qn fs cA f2 _) (cwV 1 hk (gV k132 k133 k134 k71 k135) rfl rfl rfl (by decide +kernel) ⟨Nat.le_of_ble_eq_true rfl, Nat.le_of_ble_eq_true rfl⟩) ⟨nBl, va_recv hK hP (ci := 2) (q0 := 0) rfl rfl, nPr hP hK hD⟩ rfl rfl hl.1 rfl (lv_room (Nat.le_of_ble_eq_true rfl)) dM_poly_24 ⟨Nat.le_of_ble_eq_true rfl, Nat.le_of_ble_eq_true rfl⟩) hS (fun q _ h => hFc q h) hFc (fun r3 u t H1 locs ht hvm hw hB hz1 hk1 hS => ?_)
    subst hw
    obtain ⟨f3, hP1, hK1, hD1⟩ := hB
    rw [ht] at hP1
    obtain ⟨hP, hD⟩ := va_join (wr := []) (w1 := mN h0 0 le 1 qn fs cA f3) hP hD [0, 1] [] rfl rfl (by decide) (by decide) hk1 hFc hP1 hD1
    generalize H1 = H at hP hS ⊢
    exact W.iret (v := 0) hx hb hr (fun t ht hW => ⟨⟨0, (), rfl, rfl, f3, by rw [ht]; exact hP, va_K.moved hW.alike hK, hD⟩, hS.F ht⟩) hS.2.2 dM_poly_27
  · exact absurd rfl c1
end
section
set_option maxHeartbeats 4000000 in
set_option maxRecDepth 100000 in
theorem cG_requireRoom (l : Launch) (dC : Nat → ClassId) (dI : Nat → Nat → Nat) (h0 : Nat) (le : Int32) (qp sz : Nat) : Met l yG_requireRoom wG_requireRoom ({ frames := 0, cells := 0, slots := 0, locals := 0 }) (va_Pc [.ref h0] (nU dC dI [(h0, .inr (0, [.int le, .ref qp, .int 0, .null]))] [] sz)) (va_Sv (fun _ => True)) 0 0 (fun _ => False) := by
  refine Met.ofW (cc := bG_requireRoom) (maxL := 1) (ret := none) (by decide) rfl ?_
  intro p e s m args below meth c s₁ B hml hv
  obtain ⟨rfl, hsz, hP, hK, hD0⟩ := hv
  have hx := B.exec
  have hb := B.bytes
  have hr := B.returns
  have hts := atoms_spec (ws := wG_requireRoom) B.pre
  have hk : ∀ w ∈ W0, w.before _ s = true := fun w h => hts w (List.mem_cons_of_mem _ h)
  have hown : s.vm.findClass "ImageGcds" = some m.cls := findClass_of_methodNamed B.named
  have hlocks := B.notSynchronized
  have hl := lv_entry ([.ref h0]) (n := 1) (Nat.le_of_ble_eq_true rfl)
  rw [lg_entry_eq]
  generalize (lg_sl ([.ref h0]) ++ List.replicate (1 - (lg_sl ([.ref h0])).length) Slot.unset).toArray = ls at hl ⊢
  have hl : lv_has ls 1 [(0, .ref h0)] := hl
  refine lv_aload_n hx hb dG_requireRoom_0 rfl (lv_at hl 0 rfl) ?_
  refine va_get (D := (dC, dI)) (ci := 0) (v := .int 0) (C := "ImageGcds") (T := TG) (N := 4) hx hb hk uG hown hK hP 0 rfl rfl 2 (by decide) (hk _ k2) (fun _ h9 => h9) rfl dG_requireRoom_1 ?_
  refine lv_bipush (v := 60) hx hb dG_requireRoom_4 (by decide) ?_
  refine lv_icmp_lt (tgt := 19) hx hb dG_requireRoom_6 (by decide) (fun c173 => ?_) (fun c173 => ?_)
  · skip
    exact W.vret hx hb hr (fun t ht hW => ⟨rfl, trivial, ht⟩) (fun q h => nomatch h) dG_requireRoom_19
  · skip
    exact absurd c173 (by decide)
set_option maxHeartbeats 4000000 in
set_option maxRecDepth 100000 in
theorem cG_keep (l : Launch) (dC : Nat → ClassId) (dI : Nat → Nat → Nat) (h0 : Nat) (le : Int32) (qp : Nat) (cA : ClassId) (pa : Nat) (fs : List Value) (sz : Nat) : Met l yG_keep wG_keep ({ frames := 0, cells := 0, slots := 0, locals := 0 }) (va_Pc [.ref h0, .ref pa] (nU dC dI [(h0, .inr (0, [.int le, .ref qp, .int 0, .null])), (qp, .inl (cA, 60, .inr (.inr (.inr (.inr (fun _ => none)))))), (pa, .inr (1, fs))] [(cA, .object "ImageGcds$Poly")] sz)) (va_Qi (fun (r : Int32) (_ : Unit) => r = 0) (fun _ _ => True) (va_A [(h0, .inr (0, [.int le, .ref qp, .int 0, .null])), (qp, .inl (cA, 60, .inr (.inr (.inr (.inr (fun _ => none)))))), (pa, .inr (1, fs))] sz)) 0 0 (va_A [(h0, .inr (0, [.int le, .ref qp, .int 0, .null])), (qp, .inl (cA, 60, .inr (.inr (.inr (.inr (fun _ => none)))))), (pa, .inr (1, fs))] sz) := by
  refine Met.ofW (cc := bG_keep) (maxL := 2) (ret := (some .int)) (by decide) rfl ?_
  intro p e s m args below meth c s₁ B hml hv
  obtain ⟨rfl, hsz, hP, hK, hD0⟩ := hv
  have hx := B.exec
  have hb := B.bytes
  have hr := B.returns
  have hts := atoms_spec (ws := wG_keep) B.pre
  have hk : ∀ w ∈ W0, w.before _ s = true := fun w h => hts w (List.mem_cons_of_mem _ h)
  have hown : s.vm.findClass "ImageGcds" = some m.cls := findClass_of_methodNamed B.named
  have hlocks := B.notSynchronized
  subst hsz
  have hD := hD0.self (sz := s.heap.size)
  generalize hAe : va_A [(h0, .inr (0, [.int le, .ref qp, .int 0, .null])), (qp, .inl (cA, 60, .inr (.inr (.inr (.inr (fun _ => none)))))), (pa, .inr (1, fs))] s.heap.size = A at hD ⊢
  have hA : ∀ q : Nat, s.heap.size ≤ q → A q := fun q h => by rw [← hAe]; exact Or.inr h
  have hS : va_S A s.heap s.heap [] := va_S.rf
  have hl := lv_entry ([.ref h0, .ref pa]) (n := 2) (Nat.le_of_ble_eq_true rfl)
  rw [lg_entry_eq]
  generalize (lg_sl ([.ref h0, .ref pa]) ++ List.replicate (2 - (lg_sl ([.ref h0, .ref pa])).length) Slot.unset).toArray = ls at hl ⊢
  have hl : lv_has ls 2 [(0, .ref h0), (1, .ref pa)] := hl
  refine lv_aload_n hx hb dG_keep_0 rfl (lv_at hl 0 rfl) ?_
  refine va_get (D := (dC, dI)) (ci := 0) (v := .int 0) (C := "ImageGcds") (T := TG) (N := 4) hx hb hk uG hown hK hP 0 rfl rfl 2 (by decide) (hk _ k2) (fun _ h9 => h9) rfl dG_keep_1 ?_
  refine lv_aload_n hx hb dG_keep_4 rfl (lv_at hl 0 rfl) ?_
  refine va_get (D := (dC, dI)) (ci := 0) (v := .ref qp) (C := "ImageGcds") (T := TG) (N := 4) hx hb hk uG hown hK hP 0 rfl rfl 1 (by decide) (hk _ k98) (fun _ h9 => h9) rfl dG_keep_5 ?_
  refine va_alen (v := 60) hx hb hK hP 1 0 rfl rfl rfl dG_keep_8 ?_
  refine lv_icmp_ge (tgt := 32) hx hb dG_keep_9 (by decide) (fun c174 => ?_) (fun c174 => ?_)
  · skip
    exact absurd c174 (by decide)
  · skip
    refine lv_aload_n hx hb dG_keep_12 rfl (lv_at hl 0 rfl) ?_
    refine va_get (D := (dC, dI)) (ci := 0) (v := .ref qp) (C := "ImageGcds") (T := TG) (N := 4) hx hb hk uG hown hK hP 0 rfl rfl 1 (by decide) (hk _ k98) (fun _ h9 => h9) rfl dG_keep_13 ?_
    refine lv_aload_n hx hb dG_keep_16 rfl (lv_at hl 0 rfl) ?_
    refine va_get (D := (dC, dI)) (ci := 0) (v := .int 0) (C := "ImageGcds") (T := TG) (N := 4) hx hb hk uG hown hK hP 0 rfl rfl 2 (by decide) (hk _ k2) (fun _ h9 => h9) rfl dG_keep_17 ?_
    refine lv_aload_n hx hb dG_keep_20 rfl (lv_at hl 1 rfl) ?_
    have hin : vp_in 0 60 := by rw [← nI_0]; exact vp_in_nI (by decide) (by decide)
    refine va_astq hx hb hK hP hD hS 1 0 2 1 rfl rfl rfl rfl hin dG_keep_21 (fun H locs hP hD hS => ?_)
    have hP : va_P (dC, dI) cls9 [(h0, .inr (0, [.int le, .ref qp, .int 0, .null])), (qp, .inl (cA, 60, .inr (.inr (.inr (.inr (va_up (fun _ => none) (0 : Int32).toNatClampNeg (some pa))))))), (pa, .inr (1, fs))] H := hP
    have hD : va_D A [(h0, .inr (0, [.int le, .ref qp, .int 0, .null])), (qp, .inl (cA, 60, .inr (.inr (.inr (.inr (va_up (fun _ => none) (0 : Int32).toNatClampNeg (some pa))))))), (pa, .inr (1, fs))] := hD
    refine lv_aload_n hx hb dG_keep_22 rfl (lv_at hl 0 rfl) ?_
    refine lv_dup hx hb dG_keep_23 rfl ?_
    refine va_get (D := (dC, dI)) (ci := 0) (v := .int 0) (C := "ImageGcds") (T := TG) (N := 4) hx hb hk uG hown hK hP 0 rfl rfl 2 (by decide) (hk _ k2) (fun _ h9 => h9) rfl dG_keep_24 ?_
    refine lv_iconst (v := 1) hx hb dG_keep_27 (by decide) ?_
    refine lv_iadd hx hb dG_keep_28 ?_
    refine lv_topi (fun v175 ev175 => ?_)
    refine va_put (D := (dC, dI)) (ci := 0) (v := .int v175) (ty := .int) (C := "ImageGcds") (T := TG) (N := 4) hx hb hk uG tG tG_ok nG hown hK hP hD hS 0 rfl rfl 2 (by decide) (hk _ k2) (fun _ h9 => h9) rfl (by decide +kernel) rfl rfl (Nat.le_of_ble_eq_true rfl) dG_keep_29 (fun H locs hP hD hS => ?_)
    have hP : va_P (dC, dI) cls9 [(h0, .inr (0, [.int le, .ref qp, .int v175, .null])), (qp, .inl (cA, 60, .inr (.inr (.inr (.inr (va_up (fun _ => none) (0 : Int32).toNatClampNeg (some pa))))))), (pa, .inr (1, fs))] H := hP
    have hD : va_D A [(h0, .inr (0, [.int le, .ref qp, .int v175, .null])), (qp, .inl (cA, 60, .inr (.inr (.inr (.inr (va_up (fun _ => none) (0 : Int32).toNatClampNeg (some pa))))))), (pa, .inr (1, fs))] := hD
    refine lv_aload_n hx hb dG_keep_32 rfl (lv_at hl 0 rfl) ?_
    refine va_get (D := (dC, dI)) (ci := 0) (v := .int v175) (C := "ImageGcds") (T := TG) (N := 4) hx hb hk uG hown hK hP 0 rfl rfl 2 (by decide) (hk _ k2) (fun _ h9 => h9) rfl dG_keep_33 ?_
    refine lv_iconst (v := 1) hx hb dG_keep_36 (by decide) ?_
    refine lv_isub hx hb dG_keep_37 ?_
    refine lv_topi (fun v176 ev176 => ?_)
    have hz : v176 = 0 := by rw [ev176, ev175]; decide
    exact W.iret (v := v176) hx hb hr (fun t ht hW => ⟨⟨_, (), rfl, hz, trivial⟩, hS.F ht⟩) hS.2.2 dG_keep_38
set_option maxHeartbeats 4000000 in
set_option maxRecDepth 100000 in
theorem cG_poly (l : Launch) (dC : Nat → ClassId) (dI : Nat → Nat → Nat) (h0 : Nat) (le : Int32) (qp : Nat) (cA : ClassId) (sz : Nat) : Met l yG_poly wG_poly ({ frames := 2, cells := 3, slots := 3, locals := 60 }) (va_Pc [.ref h0] (nU dC dI [(h0, .inr (0, [.int le, .ref qp, .int 0, .null])), (qp, .inl (cA, 60, .inr (.inr (.inr (.inr (fun _ => none))))))] [(cA, .object "ImageGcds$Poly")] sz)) (va_Qi (fun (r : Int32) (_ : Unit) => r = 0) (fun _ _ => True) (va_A [(h0, .inr (0, [.int le, .ref qp, .int 0, .null])), (qp, .inl (cA, 60, .inr (.inr (.inr (.inr (fun _ => none))))))] sz)) 3 3 (va_A [(h0, .inr (0, [.int le, .ref qp, .int 0, .null])), (qp, .inl (cA, 60, .inr (.inr (.inr (.inr (fun _ => none))))))] sz) := by
  refine Met.ofW (cc := bG_poly) (maxL := 1) (ret := (some .int)) (by decide) rfl ?_
  intro p e s m args below meth c s₁ B hml hv
  obtain ⟨rfl, hsz, hP, hK, hD0⟩ := hv
  have hx := B.exec
  have hb := B.bytes
  have hr := B.returns
  have hts := atoms_spec (ws := wG_poly) B.pre
  have hk : ∀ w ∈ W0, w.before _ s = true := fun w h => hts w (List.mem_cons_of_mem _ h)
  have hown : s.vm.findClass "ImageGcds" = some m.cls := findClass_of_methodNamed B.named
  have hlocks := B.notSynchronized
  subst hsz
  have hD := hD0.self (sz := s.heap.size)
  generalize hAe : va_A [(h0, .inr (0, [.int le, .ref qp, .int 0, .null])), (qp, .inl (cA, 60, .inr (.inr (.inr (.inr (fun _ => none))))))] s.heap.size = A at hD ⊢
  have hA : ∀ q : Nat, s.heap.size ≤ q → A q := fun q h => by rw [← hAe]; exact Or.inr h
  have hS : va_S A s.heap s.heap [] := va_S.rf
  have hl := lv_entry ([.ref h0]) (n := 1) (Nat.le_of_ble_eq_true rfl)
  rw [lg_entry_eq]
  generalize (lg_sl ([.ref h0]) ++ List.replicate (1 - (lg_sl ([.ref h0])).length) Slot.unset).toArray = ls at hl ⊢
  have hl : lv_has ls 1 [(0, .ref h0)] := hl
  refine lv_aload_n hx hb dG_poly_0 rfl (lv_at hl 0 rfl) ?_
  have hP0 := hP.sub (ws' := [(h0, .inr (0, [.int le, .ref qp, .int 0, .null]))]) [0] rfl
  have hD0 := hD.sub (ws' := [(h0, .inr (0, [.int le, .ref qp, .int 0, .null]))]) [0] (by decide) rfl
  have hK0 := hK.sub (tys' := []) [] rfl
  refine va_csv (W.runV (As := []) (rest := []) ⟨hx, hb, hml, hown, hk⟩ (cG_requireRoom l dC dI h0 le qp _) (cwV 0 hk (gV k136 k137 k138 k6 k139) rfl rfl rfl (by decide +kernel) ⟨Nat.le_of_ble_eq_true rfl, Nat.le_of_ble_eq_true rfl⟩) ⟨nBl, va_recv hK0 hP0 (ci := 0) (q0 := 0) rfl rfl, nPr hP0 hK0 hD0⟩ rfl rfl hl.1 rfl (lv_room (Nat.le_of_ble_eq_true rfl)) dG_poly_1 ⟨Nat.le_of_ble_eq_true rfl, Nat.le_of_ble_eq_true rfl⟩) (fun _ => ?_)
  refine lv_aload_n hx hb dG_poly_4 rfl (lv_at hl 0 rfl) ?_
  refine va_new (ci := 1) (fs := [.int 0, .null, .null]) (C := "ImageGcds$Poly") (T := TP) (N := 3) hx hb hk uP tP tP_ok hown (hk _ k97) (hk _ k140) (hk _ k141) hK hP hD hS hA rfl (fun j hj => by rcases (show j = 0 ∨ j = 1 ∨ j = 2 by omega) with rfl | rfl | rfl <;> rfl) (Nat.le_of_ble_eq_true rfl) (Nat.le_of_ble_eq_true rfl) dG_poly_5 (fun q5 H hP hD hS => ?_)
  have hP : va_P (dC, dI) cls9 [(h0, .inr (0, [.int le, .ref qp, .int 0, .null])), (qp, .inl (cA, 60, .inr (.inr (.inr (.inr (fun _ => none)))))), (q5, .inr (1, [.int 0, .null, .null]))] H := hP
  have hD : va_D A [(h0, .inr (0, [.int le, .ref qp, .int 0, .null])), (qp, .inl (cA, 60, .inr (.inr (.inr (.inr (fun _ => none)))))), (q5, .inr (1, [.int 0, .null, .null]))] := hD
  refine lv_dup hx hb dG_poly_8 rfl ?_
  refine lv_iconst (v := 0) hx hb dG_poly_9 (by decide) ?_
  have hPc := hP.sub (ws' := [(q5, .inr (1, [.int 0, .null, .null]))]) [2] rfl
  have hFc := va_free (wc := [(q5, .inr (1, [.int 0, .null, .null]))]) hD hS hA [2] rfl
  refine va_callv (va_runI (As := [.int 0]) (rest := [.ref q5, .ref h0]) ⟨hx, hb, hml, hown, hk⟩ (cP_init l dC dI q5 _) (cwI 1 hk (gI k142) rfl rfl rfl (hk _ k141) (hk _ k143) (hk _ k144) rfl (by decide +kernel) ⟨Nat.le_of_ble_eq_true rfl, Nat.le_of_ble_eq_true rfl⟩) ⟨fun a U g mk q => ⟨q.1, q.2.1, q.2.2.1, va_K.moved (u := U) (U := U.calling g mk a) (Vm.Alike.refl U.vm) q.2.2.2⟩, fun U hU hW => ⟨rfl, by rw [hU], by rw [hU]; exact hPc, va_K.moved hW.alike hK0⟩⟩ rfl rfl hl.1 rfl (lv_room (Nat.le_of_ble_eq_true rfl)) dG_poly_10 ⟨Nat.le_of_ble_eq_true rfl, Nat.le_of_ble_eq_true rfl⟩) hS (fun q _ h => hFc q h) hFc (fun u t H1 locs ht hvm hw hB hz1 hk1 hS => ?_)
  obtain ⟨q1, q2, hP1, hK1, hD1⟩ := hB
  rw [ht] at hP1
  obtain ⟨hP, hD⟩ := va_join (wr := [(h0, .inr (0, [.int le, .ref qp, .int 0, .null])), (qp, .inl (cA, 60, .inr (.inr (.inr (.inr (fun _ => none))))))]) (w1 := [(q5, .inr (1, [.int 0, .ref q1, .ref q2]))]) hP hD [2] [0, 1] rfl rfl (by decide) (by decide) hk1 hFc hP1 hD1
  generalize H1 = H at hP hS ⊢
  have hP : va_P (dC, dI) cls9 [(h0, .inr (0, [.int le, .ref qp, .int 0, .null])), (qp, .inl (cA, 60, .inr (.inr (.inr (.inr (fun _ => none)))))), (q5, .inr (1, [.int 0, .ref q1, .ref q2]))] H := hP
  have hD : va_D A [(h0, .inr (0, [.int le, .ref qp, .int 0, .null])), (qp, .inl (cA, 60, .inr (.inr (.inr (.inr (fun _ => none)))))), (q5, .inr (1, [.int 0, .ref q1, .ref q2]))] := hD
  have hFc := va_free (wc := [(h0, .inr (0, [.int le, .ref qp, .int 0, .null])), (qp, .inl (cA, 60, .inr (.inr (.inr (.inr (fun _ => none)))))), (q5, .inr (1, [.int 0, .ref q1, .ref q2]))]) hD hS hA [0, 1, 2] rfl
  refine va_calli (va_runV (As := [.ref q5]) (rest := []) ⟨hx, hb, hml, hown, hk⟩ (cG_keep l dC dI h0 le qp cA q5 [.int 0, .ref q1, .ref q2] _) (cwV 1 hk (gV k145 k146 k147 k6 k148) rfl rfl rfl (by decide +kernel) ⟨Nat.le_of_ble_eq_true rfl, Nat.le_of_ble_eq_true rfl⟩) ⟨nBl, va_recv hK hP (ci := 0) (q0 := 0) rfl rfl, nPr hP hK hD⟩ rfl rfl hl.1 rfl (lv_room (Nat.le_of_ble_eq_true rfl)) dG_poly_13 ⟨Nat.le_of_ble_eq_true rfl, Nat.le_of_ble_eq_true rfl⟩) hS (fun q _ h => hFc q h) hFc (fun r3 u t H1 locs ht hvm hw hB hz1 hk1 hS => ?_)
  subst hw
  refine W.widen (k := 3) (n := 3) (Nat.le_of_ble_eq_true rfl) (Nat.le_of_ble_eq_true rfl) ?_
  exact W.iret (v := 0) hx hb hr (fun t ht hW => ⟨⟨0, (), rfl, rfl, trivial⟩, hS.F ht⟩) hS.2.2 dG_poly_16
set_option maxHeartbeats 4000000 in
set_option maxRecDepth 100000 in
theorem cL_poly (l : Launch) (dC : Nat → ClassId) (dI : Nat → Nat → Nat) (h0 : Nat) (le : Int32) (qp : Nat) (cA : ClassId) (po : Nat) (cL : ClassId) (fo : Nat → Int64) (sz : Nat) : Met l yL_poly wL_poly ({ frames := 3, cells := 3, slots := 3, locals := 90 }) (va_Pc [.ref h0, .ref po] (nU dC dI [(h0, .inr (0, [.int le, .ref qp, .int 0, .null])), (qp, .inl (cA, 60, .inr (.inr (.inr (.inr (fun _ => none)))))), (po, .inl (cL, 1, .inr (.inl fo)))] [(cA, .object "ImageGcds$Poly"), (cL, .long)] sz)) (va_Qi (fun (r : Int32) (_ : Unit) => r = 0) (fun _ t => ∃ g : Nat → Int64, g 0 = 0 ∧ va_P (dC, dI) cls9 [(po, .inl (cL, 1, .inr (.inl g)))] t.heap ∧ va_D (va_A [(h0, .inr (0, [.int le, .ref qp, .int 0, .null])), (qp, .inl (cA, 60, .inr (.inr (.inr (.inr (fun _ => none)))))), (po, .inl (cL, 1, .inr (.inl fo)))] sz) [(po, .inl (cL, 1, .inr (.inl g)))]) (va_A [(h0, .inr (0, [.int le, .ref qp, .int 0, .null])), (qp, .inl (cA, 60, .inr (.inr (.inr (.inr (fun _ => none)))))), (po, .inl (cL, 1, .inr (.inl fo)))] sz)) 3 3 (va_A [(h0, .inr (0, [.int le, .ref qp, .int 0, .null])), (qp, .inl (cA, 60, .inr (.inr (.inr (.inr (fun _ => none)))))), (po, .inl (cL, 1, .inr (.inl fo)))] sz) := by
  refine va_MetW (cc := bL_poly) (maxL := 3) (ret := (some .int)) (by decide) rfl ?_
  intro p e s m args below meth c s₁ B hml hv
  obtain ⟨rfl, hsz, hP, hK, hD0⟩ := hv
  have hx := B.exec
  have hb := B.bytes
  have hr := B.returns
  have hts := atoms_spec (ws := wL_poly) B.pre
  have hk : ∀ w ∈ W0, w.before _ s = true := fun w h => hts w (List.mem_cons_of_mem _ h)
  have hown : s.vm.findClass "ImageGcdsLaw" = some m.cls := findClass_of_methodNamed B.named
  have hlocks := B.notSynchronized
  subst hsz
  have hD := hD0.self (sz := s.heap.size)
  generalize hAe : va_A [(h0, .inr (0, [.int le, .ref qp, .int 0, .null])), (qp, .inl (cA, 60, .inr (.inr (.inr (.inr (fun _ => none)))))), (po, .inl (cL, 1, .inr (.inl fo)))] s.heap.size = A at hD ⊢
  have hA : ∀ q : Nat, s.heap.size ≤ q → A q := fun q h => by rw [← hAe]; exact Or.inr h
  have hS : va_S A s.heap s.heap [] := va_S.rf
  have hl := lv_entry ([.ref h0, .ref po]) (n := 3) (Nat.le_of_ble_eq_true rfl)
  rw [lg_entry_eq]
  generalize (lg_sl ([.ref h0, .ref po]) ++ List.replicate (3 - (lg_sl ([.ref h0, .ref po])).length) Slot.unset).toArray = ls at hl ⊢
  have hl : lv_has ls 3 [(0, .ref h0), (1, .ref po)] := hl
  refine lv_aload_n hx hb dL_poly_0 rfl (lv_at hl 1 rfl) ?_
  refine lv_iconst (v := 0) hx hb dL_poly_1 (by decide) ?_
  refine lv_aload_n hx hb dL_poly_2 rfl (lv_at hl 0 rfl) ?_
  have hP0 := hP.sub (ws' := [(h0, .inr (0, [.int le, .ref qp, .int 0, .null])), (qp, .inl (cA, 60, .inr (.inr (.inr (.inr (fun _ => none))))))]) [0, 1] rfl
  have hD0 := hD.sub (ws' := [(h0, .inr (0, [.int le, .ref qp, .int 0, .null])), (qp, .inl (cA, 60, .inr (.inr (.inr (.inr (fun _ => none))))))]) [0, 1] (by decide) rfl
  have hK0 := hK.sub (tys' := [(cA, .object "ImageGcds$Poly")]) [0] rfl
  have hFc := va_free (wc := [(h0, .inr (0, [.int le, .ref qp, .int 0, .null])), (qp, .inl (cA, 60, .inr (.inr (.inr (.inr (fun _ => none))))))]) hD hS hA [0, 1] rfl
  refine va_calli (va_runV (As := []) (rest := [.int 0, .ref po]) ⟨hx, hb, hml, hown, hk⟩ (cG_poly l dC dI h0 le qp cA _) (cwV 0 hk (gV k149 k150 k151 k6 k152) rfl rfl rfl (by decide +kernel) ⟨Nat.le_of_ble_eq_true rfl, Nat.le_of_ble_eq_true rfl⟩) ⟨nBl, va_recv hK0 hP0 (ci := 0) (q0 := 0) rfl rfl, nPr hP0 hK0 hD0⟩ rfl rfl hl.1 rfl (lv_room (Nat.le_of_ble_eq_true rfl)) dL_poly_3 ⟨Nat.le_of_ble_eq_true rfl, Nat.le_of_ble_eq_true rfl⟩) hS (fun q _ h => hFc q h) hFc (fun r3 u t H1 locs ht hvm hw hB hz1 hk1 hS => ?_)
  subst hw
  obtain ⟨hP, hD⟩ := va_join (wr := [(po, .inl (cL, 1, .inr (.inl fo)))]) (w1 := []) hP hD [0, 1] [2] rfl rfl (by decide) (by decide) hk1 hFc (fun j x hx => by simp at hx) ⟨fun i j x y hx => by simp at hx, fun j x hx => by simp at hx⟩
  generalize H1 = H at hP hS ⊢
  have hP : va_P (dC, dI) cls9 [(po, .inl (cL, 1, .inr (.inl fo)))] H := hP
  have hD : va_D A [(po, .inl (cL, 1, .inr (.inl fo)))] := hD
  refine lv_i2l (v := 0) hx hb dL_poly_6 (by decide) ?_
  have hin : vp_in 0 1 := by rw [← nI_0]; exact vp_in_nI (by decide) (by decide)
  refine va_last hx hb hK hP hD hS 0 1 rfl rfl hin dL_poly_7 (fun H locs hP hD hS => ?_)
  refine lv_goto (tgt := 14) hx hb dL_poly_8 (by decide) ?_
  refine lv_iconst (v := 0) hx hb dL_poly_14 (by decide) ?_
  refine W.widen (k := 3) (n := 3) (Nat.le_of_ble_eq_true rfl) (Nat.le_of_ble_eq_true rfl) ?_
  exact W.iret (v := 0) hx hb hr (fun t ht hW => ⟨⟨0, (), rfl, rfl, _, rfl, by rw [ht]; exact hP, hD⟩, hS.F ht⟩) hS.2.2 dL_poly_15
end
section
theorem gUs {dC : Nat → ClassId} {dI : Nat → Nat → Nat} {h0 : Nat} {le : Int32} {qp sa sz : Nat} {av : List Value} : FrameBlind (va_Pc av (fun U => U.heap.size = sz ∧ gU dC dI h0 le qp sa U)) := fun a U g mk q => ⟨q.1, q.2.1, gU.go (s := U) (U := U.calling g mk a) (State.WarmedH.refl U) (fun _ _ => rfl) q.2.2⟩
theorem gUat {dC : Nat → ClassId} {dI : Nat → Nat → Nat} {h0 : Nat} {le : Int32} {qp sa : Nat} {s : State} {H : Heap} {locs : List Loc} (hP : va_P (dC, dI) cls9 [(h0, .inr (0, [.int le, .ref qp, .int 0, .null]))] H) (hK : va_K (dC, dI) cls9 [] s) (hth : th_S s) (hstr : vk_R "ImageGcds" 139 "no such polynomial" sa s) (hS : va_S (fun q : Nat => s.heap.size ≤ q) s.heap H locs) : ∀ U : State, U.heap = H → s.WarmedH U.vm → gU dC dI h0 le qp sa U := fun U hU hW =>
  ⟨by rw [hU]; exact hP, va_K.moved hW.alike hK, hth.go hW.alike (fun q h => by rw [hU]; exact hS.2.1 q h (Nat.not_le.mpr h)), vk_R.warm hW hstr⟩
set_option maxHeartbeats 4000000 in
set_option maxRecDepth 100000 in
theorem la_1 {p : Program} {l : Launch} {e : Env} {s : State} {m : MethodId} {below : List Frame} {meth : Method} {c : Code} {b L : Nat} {xs : Nat → Int32} {Q : State → Prop} {dC : Nat → ClassId} {dI : Nat → Nat → Nat} {q0 qp q1 qn qo sa : Nat} {le lm : Int32} {cA cN cO : ClassId} {fo : Nat → Int64} {f : Nat → Int32} {fs : List Value} {H : Heap} {locs : List Loc} {ls : Array Slot}
    (htr : l.stackTraces = false) (hL8 : L = 8) (hx : p.tables.exec = Jvm.exec) (hb : c.code = bL_law) (hml : c.maxLocals = 7) (hown : s.vm.findClass "ImageGcdsLaw" = some m.cls) (hX : va_X b L xs s s.heap) (hbl : b < s.heap.size) (hk : ∀ w ∈ W0, w.before #[Value.ref b] s = true) (hK : va_K (dC, dI) cls9 [(cA, .object "ImageGcds$Poly"), (cN, .int), (cO, .long)] s) (hth : th_S s) (hstr : vk_R "ImageGcds" 139 "no such polynomial" sa s)
    (hP : va_P (dC, dI) cls9 [(q0, .inr (0, [.int le, .ref qp, .int 0, .null])), (qp, .inl (cA, 60, .inr (.inr (.inr (.inr (fun _ => none)))))), (q1, .inr (2, .int 0 :: .int lm :: .int 0 :: .ref qn :: fs)), (qn, .inl (cN, 290816, .inl f)), (qo, .inl (cO, 1, .inr (.inl fo)))] H) (hD : va_D (fun q : Nat => s.heap.size ≤ q) [(q0, .inr (0, [.int le, .ref qp, .int 0, .null])), (qp, .inl (cA, 60, .inr (.inr (.inr (.inr (fun _ => none)))))), (q1, .inr (2, .int 0 :: .int lm :: .int 0 :: .ref qn :: fs)), (qn, .inl (cN, 290816, .inl f)), (qo, .inl (cO, 1, .inr (.inl fo)))]) (hS : va_S (fun q : Nat => s.heap.size ≤ q) s.heap H locs) (hl : lv_has ls 7 [(4, .int 1), (3, .ref qo), (2, .ref q1), (1, .ref q0), (0, .ref b)])
    (kk : ∀ (H : Heap) (locs : List Loc) (ls : Array Slot), va_S (fun q : Nat => s.heap.size ≤ q) s.heap H locs → lv_has ls 7 [(4, .int 1), (0, .ref b)] → W p l e room_1 s m #[Value.ref b] below meth c H locs 25 344740 Q (F0 m 1265 ls [])) : W p l e room_1 s m #[Value.ref b] below meth c H locs 22 344734 Q (F0 m 172 ls []) := by
  have hA : ∀ q : Nat, s.heap.size ≤ q → (fun q : Nat => s.heap.size ≤ q) q := fun _ h => h
  have hbA : ¬ (fun q : Nat => s.heap.size ≤ q) b := Nat.not_le.mpr hbl
  have hK0 : va_K (dC, dI) cls9 [] s := hK.sub (tys' := []) [] rfl
  refine lv_aload_n hx hb dL_law_172 rfl (lv_at hl 3 rfl) ?_
  refine lv_aload_n hx hb dL_law_173 rfl (lv_at hl 4 rfl) ?_
  refine lv_iload hx hb dL_law_174 (lv_at hl 0 rfl) ?_
  refine lv_iconst (v := 1) hx hb dL_law_176 (by decide) ?_
  refine lv_iadd hx hb dL_law_177 ?_
  refine lv_topi (fun v177 ev177 => ?_)
  have ev177 : v177 = nI 2 := ev177.trans (by decide)
  subst ev177
  refine va_sld hx hb hX hbl hbA hS (vp_in_nI (n := 2) (by omega) (by omega)) dL_law_178 ?_
  refine lv_topi (fun a178 ea178 => ?_)
  refine lv_aload_n hx hb dL_law_179 rfl (lv_at hl 4 rfl) ?_
  refine lv_iload hx hb dL_law_180 (lv_at hl 0 rfl) ?_
  refine lv_iconst (v := 2) hx hb dL_law_182 (by decide) ?_
  refine lv_iadd hx hb dL_law_183 ?_
  refine lv_topi (fun v179 ev179 => ?_)
  have ev179 : v179 = nI 3 := ev179.trans (by decide)
  subst ev179
  refine va_sld hx hb hX hbl hbA hS (vp_in_nI (n := 3) (by omega) (by omega)) dL_law_184 ?_
  refine lv_topi (fun a180 ea180 => ?_)
  refine lv_i2l hx hb dL_law_185 rfl ?_
  refine lv_topl (fun v181 ev181 => ?_)
  refine lv_bipush (v := 32) hx hb dL_law_186 (by decide) ?_
  refine lv_lshl hx hb dL_law_188 rfl ?_
  refine lv_topl (fun v182 ev182 => ?_)
  refine lv_aload_n hx hb dL_law_189 rfl (lv_at hl 4 rfl) ?_
  refine lv_iload hx hb dL_law_190 (lv_at hl 0 rfl) ?_
  refine lv_iconst (v := 3) hx hb dL_law_192 (by decide) ?_
  refine lv_iadd hx hb dL_law_193 ?_
  refine lv_topi (fun v183 ev183 => ?_)
  have ev183 : v183 = nI 4 := ev183.trans (by decide)
  subst ev183
  refine va_sld hx hb hX hbl hbA hS (vp_in_nI (n := 4) (by omega) (by omega)) dL_law_194 ?_
  refine lv_topi (fun a184 ea184 => ?_)
  refine lv_i2l hx hb dL_law_195 rfl ?_
  refine lv_topl (fun v185 ev185 => ?_)
  refine lv_ldc2 (v := 4294967295) hx hb hown (hk _ k153) dL_law_196 ?_
  refine lv_land hx hb dL_law_199 ?_
  refine lv_topl (fun v186 ev186 => ?_)
  refine lv_lor hx hb dL_law_200 ?_
  refine lv_topl (fun v187 ev187 => ?_)
  refine lv_aload_n hx hb dL_law_201 rfl (lv_at hl 4 rfl) ?_
  refine lv_iload hx hb dL_law_202 (lv_at hl 0 rfl) ?_
  refine lv_iconst (v := 4) hx hb dL_law_204 (by decide) ?_
  refine lv_iadd hx hb dL_law_205 ?_
  refine lv_topi (fun v188 ev188 => ?_)
  have ev188 : v188 = nI 5 := ev188.trans (by decide)
  subst ev188
  refine va_sld hx hb hX hbl hbA hS (vp_in_nI (n := 5) (by omega) (by omega)) dL_law_206 ?_
  refine lv_topi (fun a189 ea189 => ?_)
  refine lv_i2l hx hb dL_law_207 rfl ?_
  refine lv_topl (fun v190 ev190 => ?_)
  refine lv_bipush (v := 32) hx hb dL_law_208 (by decide) ?_
  refine lv_lshl hx hb dL_law_210 rfl ?_
  refine lv_topl (fun v191 ev191 => ?_)
  refine lv_aload_n hx hb dL_law_211 rfl (lv_at hl 4 rfl) ?_
  refine lv_iload hx hb dL_law_212 (lv_at hl 0 rfl) ?_
  refine lv_iconst (v := 5) hx hb dL_law_214 (by decide) ?_
  refine lv_iadd hx hb dL_law_215 ?_
  refine lv_topi (fun v192 ev192 => ?_)
  have ev192 : v192 = nI 6 := ev192.trans (by decide)
  subst ev192
  refine va_sld hx hb hX hbl hbA hS (vp_in_nI (n := 6) (by omega) (by omega)) dL_law_216 ?_
  refine lv_topi (fun a193 ea193 => ?_)
  refine lv_i2l hx hb dL_law_217 rfl ?_
  refine lv_topl (fun v194 ev194 => ?_)
  refine lv_ldc2 (v := 4294967295) hx hb hown (hk _ k153) dL_law_218 ?_
  refine lv_land hx hb dL_law_221 ?_
  refine lv_topl (fun v195 ev195 => ?_)
  refine lv_lor hx hb dL_law_222 ?_
  refine lv_topl (fun v196 ev196 => ?_)
  refine lv_aload_n hx hb dL_law_223 rfl (lv_at hl 4 rfl) ?_
  refine lv_iload hx hb dL_law_224 (lv_at hl 0 rfl) ?_
  refine lv_bipush (v := 6) hx hb dL_law_226 (by decide) ?_
  refine lv_iadd hx hb dL_law_228 ?_
  refine lv_topi (fun v197 ev197 => ?_)
  have ev197 : v197 = nI 7 := ev197.trans (by decide)
  subst ev197
  refine va_sld hx hb hX hbl hbA hS (vp_in_nI (n := 7) (by omega) (by omega)) dL_law_229 ?_
  refine lv_topi (fun a198 ea198 => ?_)
  refine lv_aload_n hx hb dL_law_230 rfl (lv_at hl 1 rfl) ?_
  have hPg := hP.sub (ws' := [(q0, .inr (0, [.int le, .ref qp, .int 0, .null]))]) [0] rfl
  refine va_calli (th_runS (As := [.ref q0, .int a178, .long v187, .long v196, .int a198, .ref qo]) (rest := []) ⟨hx, hb, hml, hown, hk⟩ (cL_term l htr dC dI q0 le qp sa _ a178 v187 v196 a198 qo) (th_cs 6 hk (gS k154 k155 k156 k157) rfl rfl rfl (by decide +kernel) ⟨Nat.le_of_ble_eq_true rfl, Nat.le_of_ble_eq_true rfl⟩) ⟨gUs, fun U hU hW => ⟨rfl, by rw [hU], gUat hPg hK0 hth hstr hS U hU hW⟩⟩ rfl rfl hl.1 rfl (lv_room (Nat.le_of_ble_eq_true rfl)) dL_law_231 ⟨Nat.le_of_ble_eq_true rfl, Nat.le_of_ble_eq_true rfl⟩) hS (fun q h1 h2 => absurd h1 (Nat.not_lt.mpr h2)) (fun q h => Nat.le_trans hS.1 h) (fun r199 u t H1 locs ht hvm hw hB hz1 hk1 hS => ?_)
  subst hw
  have hP : va_P (dC, dI) cls9 [(q0, .inr (0, [.int le, .ref qp, .int 0, .null])), (qp, .inl (cA, 60, .inr (.inr (.inr (.inr (fun _ => none)))))), (q1, .inr (2, .int 0 :: .int lm :: .int 0 :: .ref qn :: fs)), (qn, .inl (cN, 290816, .inl f)), (qo, .inl (cO, 1, .inr (.inl fo)))] H1 := hP.kept (fun j x hx => hk1 x.1 ((hP j x hx).lt) (Nat.not_le.mpr ((hP j x hx).lt)))
  generalize H1 = H at hP hS ⊢
  refine lv_istore (lv' := [(5, .int 1), (4, .int 1), (3, .ref qo), (2, .ref q1), (1, .ref q0), (0, .ref b)]) hx hb dL_law_234 hl (by decide) rfl (fun ls hl => ?_)
  refine lv_aload_n hx hb dL_law_236 rfl (lv_at hl 3 rfl) ?_
  refine lv_aload_n hx hb dL_law_237 rfl (lv_at hl 5 rfl) ?_
  refine lv_iload hx hb dL_law_238 (lv_at hl 1 rfl) ?_
  refine lv_iconst (v := 1) hx hb dL_law_240 (by decide) ?_
  refine lv_iadd hx hb dL_law_241 ?_
  refine lv_topi (fun v200 ev200 => ?_)
  have ev200 : v200 = nI 2 := ev200.trans (by decide)
  subst ev200
  refine va_sld hx hb hX hbl hbA hS (vp_in_nI (n := 2) (by omega) (by omega)) dL_law_242 ?_
  refine lv_topi (fun a201 ea201 => ?_)
  refine lv_aload_n hx hb dL_law_243 rfl (lv_at hl 5 rfl) ?_
  refine lv_iload hx hb dL_law_244 (lv_at hl 1 rfl) ?_
  refine lv_iconst (v := 2) hx hb dL_law_246 (by decide) ?_
  refine lv_iadd hx hb dL_law_247 ?_
  refine lv_topi (fun v202 ev202 => ?_)
  have ev202 : v202 = nI 3 := ev202.trans (by decide)
  subst ev202
  refine va_sld hx hb hX hbl hbA hS (vp_in_nI (n := 3) (by omega) (by omega)) dL_law_248 ?_
  refine lv_topi (fun a203 ea203 => ?_)
  refine lv_i2l hx hb dL_law_249 rfl ?_
  refine lv_topl (fun v204 ev204 => ?_)
  refine lv_bipush (v := 32) hx hb dL_law_250 (by decide) ?_
  refine lv_lshl hx hb dL_law_252 rfl ?_
  refine lv_topl (fun v205 ev205 => ?_)
  refine lv_aload_n hx hb dL_law_253 rfl (lv_at hl 5 rfl) ?_
  refine lv_iload hx hb dL_law_254 (lv_at hl 1 rfl) ?_
  refine lv_iconst (v := 3) hx hb dL_law_256 (by decide) ?_
  refine lv_iadd hx hb dL_law_257 ?_
  refine lv_topi (fun v206 ev206 => ?_)
  have ev206 : v206 = nI 4 := ev206.trans (by decide)
  subst ev206
  refine va_sld hx hb hX hbl hbA hS (vp_in_nI (n := 4) (by omega) (by omega)) dL_law_258 ?_
  refine lv_topi (fun a207 ea207 => ?_)
  refine lv_i2l hx hb dL_law_259 rfl ?_
  refine lv_topl (fun v208 ev208 => ?_)
  refine lv_ldc2 (v := 4294967295) hx hb hown (hk _ k153) dL_law_260 ?_
  refine lv_land hx hb dL_law_263 ?_
  refine lv_topl (fun v209 ev209 => ?_)
  refine lv_lor hx hb dL_law_264 ?_
  refine lv_topl (fun v210 ev210 => ?_)
  refine lv_aload_n hx hb dL_law_265 rfl (lv_at hl 5 rfl) ?_
  refine lv_iload hx hb dL_law_266 (lv_at hl 1 rfl) ?_
  refine lv_iconst (v := 4) hx hb dL_law_268 (by decide) ?_
  refine lv_iadd hx hb dL_law_269 ?_
  refine lv_topi (fun v211 ev211 => ?_)
  have ev211 : v211 = nI 5 := ev211.trans (by decide)
  subst ev211
  refine va_sld hx hb hX hbl hbA hS (vp_in_nI (n := 5) (by omega) (by omega)) dL_law_270 ?_
  refine lv_topi (fun a212 ea212 => ?_)
  refine lv_i2l hx hb dL_law_271 rfl ?_
  refine lv_topl (fun v213 ev213 => ?_)
  refine lv_bipush (v := 32) hx hb dL_law_272 (by decide) ?_
  refine lv_lshl hx hb dL_law_274 rfl ?_
  refine lv_topl (fun v214 ev214 => ?_)
  refine lv_aload_n hx hb dL_law_275 rfl (lv_at hl 5 rfl) ?_
  refine lv_iload hx hb dL_law_276 (lv_at hl 1 rfl) ?_
  refine lv_iconst (v := 5) hx hb dL_law_278 (by decide) ?_
  refine lv_iadd hx hb dL_law_279 ?_
  refine lv_topi (fun v215 ev215 => ?_)
  have ev215 : v215 = nI 6 := ev215.trans (by decide)
  subst ev215
  refine va_sld hx hb hX hbl hbA hS (vp_in_nI (n := 6) (by omega) (by omega)) dL_law_280 ?_
  refine lv_topi (fun a216 ea216 => ?_)
  refine lv_i2l hx hb dL_law_281 rfl ?_
  refine lv_topl (fun v217 ev217 => ?_)
  refine lv_ldc2 (v := 4294967295) hx hb hown (hk _ k153) dL_law_282 ?_
  refine lv_land hx hb dL_law_285 ?_
  refine lv_topl (fun v218 ev218 => ?_)
  refine lv_lor hx hb dL_law_286 ?_
  refine lv_topl (fun v219 ev219 => ?_)
  refine lv_aload_n hx hb dL_law_287 rfl (lv_at hl 5 rfl) ?_
  refine lv_iload hx hb dL_law_288 (lv_at hl 1 rfl) ?_
  refine lv_bipush (v := 6) hx hb dL_law_290 (by decide) ?_
  refine lv_iadd hx hb dL_law_292 ?_
  refine lv_topi (fun v220 ev220 => ?_)
  have ev220 : v220 = nI 7 := ev220.trans (by decide)
  subst ev220
  refine va_sld hx hb hX hbl hbA hS (vp_in_nI (n := 7) (by omega) (by omega)) dL_law_293 ?_
  refine lv_topi (fun a221 ea221 => ?_)
  have hPm := hP.sub (ws' := mW q1 0 lm 0 (.ref qn :: fs)) [2] rfl
  have hq1 : s.heap.size ≤ q1 := hD.2 2 _ rfl
  refine va_calli (va_runV (As := [.int a201, .long v210, .long v219, .int a221]) (rest := []) ⟨hx, hb, hml, hown, hk⟩ (cM_term l dC dI q1 0 lm (.ref qn :: fs) a201 v210 v219 a221) (cwV 4 hk (gV k158 k159 k160 k71 k161) rfl rfl rfl (by decide +kernel) ⟨Nat.le_of_ble_eq_true rfl, Nat.le_of_ble_eq_true rfl⟩) ⟨mB, va_recv hK0 hPm (ci := 2) (q0 := 0) rfl rfl, mP hPm hK0⟩ rfl rfl hl.1 rfl (lv_room (Nat.le_of_ble_eq_true rfl)) dL_law_294 ⟨Nat.le_of_ble_eq_true rfl, Nat.le_of_ble_eq_true rfl⟩) hS (fun q _ h => by rw [h]; exact hq1) (fun q h => by rw [h]; exact hq1) (fun r222 u t H1 locs ht hvm hw hB hz1 hk1 hS => ?_)
  subst hw
  obtain ⟨hPm, hKm⟩ := hB
  rw [ht] at hPm
  generalize H1 = H at hPm hS ⊢
  refine lv_istore (lv' := [(6, .int 0), (5, .int 1), (4, .int 1), (3, .ref qo), (2, .ref q1), (1, .ref q0), (0, .ref b)]) hx hb dL_law_297 hl (by decide) rfl (fun ls hl => ?_)
  refine lv_aload_n hx hb dL_law_299 rfl (lv_at hl 4 rfl) ?_
  refine vp_callSi (W.runV (As := []) (rest := []) ⟨hx, hb, hml, hown, hk⟩ (cM_thrown9 l dC dI q1 1 lm 0 (.ref qn :: fs) _) (cwV 0 hk (gV k162 k163 k164 k71 k165) rfl rfl rfl (by decide +kernel) ⟨Nat.le_of_ble_eq_true rfl, Nat.le_of_ble_eq_true rfl⟩) ⟨nBl, va_recv hK0 hPm (ci := 2) (q0 := 0) rfl rfl, nPr hPm hK0 (mD (h0 := q1))⟩ rfl rfl hl.1 rfl (lv_room (Nat.le_of_ble_eq_true rfl)) dL_law_300 ⟨Nat.le_of_ble_eq_true rfl, Nat.le_of_ble_eq_true rfl⟩) (fun r223 hw => ?_)
  subst hw
  refine lv_iload hx hb dL_law_303 (lv_at hl 1 rfl) ?_
  refine lv_icmp_eq (tgt := 310) hx hb dL_law_305 (by decide) (fun c224 => ?_) (fun c224 => ?_)
  · skip
    refine lv_iload hx hb dL_law_310 (lv_at hl 1 rfl) ?_
    refine lv_if_ne (tgt := 334) hx hb dL_law_312 (by decide) (fun c225 => ?_) (fun c225 => ?_)
    · skip
      refine lv_goto (tgt := 1265) hx hb dL_law_334 (by decide) ?_
      refine W.widen (k := 25) (n := 344740) (Nat.le_of_ble_eq_true rfl) (Nat.le_of_ble_eq_true rfl) ?_
      exact kk _ _ ls hS (lv_sub hl [2, 6] rfl)
    · skip
      exact absurd c225 (by decide)
  · skip
    exact absurd c224 (by decide)
set_option maxHeartbeats 4000000 in
set_option maxRecDepth 100000 in
theorem la_2 {p : Program} {l : Launch} {e : Env} {s : State} {m : MethodId} {below : List Frame} {meth : Method} {c : Code} {b L : Nat} {xs : Nat → Int32} {Q : State → Prop} {dC : Nat → ClassId} {dI : Nat → Nat → Nat} {q0 qp q1 qn qo sa : Nat} {le lm : Int32} {cA cN cO : ClassId} {fo : Nat → Int64} {f : Nat → Int32} {fs : List Value} {H : Heap} {locs : List Loc} {ls : Array Slot}
    (htr : l.stackTraces = false) (hL8 : L = 8) (hx : p.tables.exec = Jvm.exec) (hb : c.code = bL_law) (hml : c.maxLocals = 7) (hown : s.vm.findClass "ImageGcdsLaw" = some m.cls) (hX : va_X b L xs s s.heap) (hbl : b < s.heap.size) (hk : ∀ w ∈ W0, w.before #[Value.ref b] s = true) (hK : va_K (dC, dI) cls9 [(cA, .object "ImageGcds$Poly"), (cN, .int), (cO, .long)] s) (hth : th_S s) (hstr : vk_R "ImageGcds" 139 "no such polynomial" sa s)
    (hP : va_P (dC, dI) cls9 [(q0, .inr (0, [.int le, .ref qp, .int 0, .null])), (qp, .inl (cA, 60, .inr (.inr (.inr (.inr (fun _ => none)))))), (q1, .inr (2, .int 0 :: .int lm :: .int 0 :: .ref qn :: fs)), (qn, .inl (cN, 290816, .inl f)), (qo, .inl (cO, 1, .inr (.inl fo)))] H) (hD : va_D (fun q : Nat => s.heap.size ≤ q) [(q0, .inr (0, [.int le, .ref qp, .int 0, .null])), (qp, .inl (cA, 60, .inr (.inr (.inr (.inr (fun _ => none)))))), (q1, .inr (2, .int 0 :: .int lm :: .int 0 :: .ref qn :: fs)), (qn, .inl (cN, 290816, .inl f)), (qo, .inl (cO, 1, .inr (.inl fo)))]) (hS : va_S (fun q : Nat => s.heap.size ≤ q) s.heap H locs) (hl : lv_has ls 7 [(4, .int 1), (3, .ref qo), (2, .ref q1), (1, .ref q0), (0, .ref b)])
    (kk : ∀ (H : Heap) (locs : List Loc) (ls : Array Slot), va_S (fun q : Nat => s.heap.size ≤ q) s.heap H locs → lv_has ls 7 [(4, .int 1), (0, .ref b)] → W p l e room_1 s m #[Value.ref b] below meth c H locs 25 344740 Q (F0 m 1265 ls [])) : W p l e room_1 s m #[Value.ref b] below meth c H locs 22 344734 Q (F0 m 337 ls []) := by
  have hA : ∀ q : Nat, s.heap.size ≤ q → (fun q : Nat => s.heap.size ≤ q) q := fun _ h => h
  have hbA : ¬ (fun q : Nat => s.heap.size ≤ q) b := Nat.not_le.mpr hbl
  have hK0 : va_K (dC, dI) cls9 [] s := hK.sub (tys' := []) [] rfl
  refine lv_aload_n hx hb dL_law_337 rfl (lv_at hl 3 rfl) ?_
  refine lv_aload_n hx hb dL_law_338 rfl (lv_at hl 4 rfl) ?_
  refine lv_iload hx hb dL_law_339 (lv_at hl 0 rfl) ?_
  refine lv_iconst (v := 1) hx hb dL_law_341 (by decide) ?_
  refine lv_iadd hx hb dL_law_342 ?_
  refine lv_topi (fun v226 ev226 => ?_)
  have ev226 : v226 = nI 2 := ev226.trans (by decide)
  subst ev226
  refine va_sld hx hb hX hbl hbA hS (vp_in_nI (n := 2) (by omega) (by omega)) dL_law_343 ?_
  refine lv_topi (fun a227 ea227 => ?_)
  refine lv_aload_n hx hb dL_law_344 rfl (lv_at hl 4 rfl) ?_
  refine lv_iload hx hb dL_law_345 (lv_at hl 0 rfl) ?_
  refine lv_iconst (v := 2) hx hb dL_law_347 (by decide) ?_
  refine lv_iadd hx hb dL_law_348 ?_
  refine lv_topi (fun v228 ev228 => ?_)
  have ev228 : v228 = nI 3 := ev228.trans (by decide)
  subst ev228
  refine va_sld hx hb hX hbl hbA hS (vp_in_nI (n := 3) (by omega) (by omega)) dL_law_349 ?_
  refine lv_topi (fun a229 ea229 => ?_)
  refine lv_aload_n hx hb dL_law_350 rfl (lv_at hl 1 rfl) ?_
  have hPg := hP.sub (ws' := [(q0, .inr (0, [.int le, .ref qp, .int 0, .null]))]) [0] rfl
  refine va_calli (th_runS (As := [.ref q0, .int a227, .int a229, .ref qo]) (rest := []) ⟨hx, hb, hml, hown, hk⟩ (cL_add l htr dC dI q0 le qp sa _ a227 a229 qo) (th_cs 4 hk (gS k166 k167 k156 k168) rfl rfl rfl (by decide +kernel) ⟨Nat.le_of_ble_eq_true rfl, Nat.le_of_ble_eq_true rfl⟩) ⟨gUs, fun U hU hW => ⟨rfl, by rw [hU], gUat hPg hK0 hth hstr hS U hU hW⟩⟩ rfl rfl hl.1 rfl (lv_room (Nat.le_of_ble_eq_true rfl)) dL_law_351 ⟨Nat.le_of_ble_eq_true rfl, Nat.le_of_ble_eq_true rfl⟩) hS (fun q h1 h2 => absurd h1 (Nat.not_lt.mpr h2)) (fun q h => Nat.le_trans hS.1 h) (fun r230 u t H1 locs ht hvm hw hB hz1 hk1 hS => ?_)
  subst hw
  have hP : va_P (dC, dI) cls9 [(q0, .inr (0, [.int le, .ref qp, .int 0, .null])), (qp, .inl (cA, 60, .inr (.inr (.inr (.inr (fun _ => none)))))), (q1, .inr (2, .int 0 :: .int lm :: .int 0 :: .ref qn :: fs)), (qn, .inl (cN, 290816, .inl f)), (qo, .inl (cO, 1, .inr (.inl fo)))] H1 := hP.kept (fun j x hx => hk1 x.1 ((hP j x hx).lt) (Nat.not_le.mpr ((hP j x hx).lt)))
  generalize H1 = H at hP hS ⊢
  refine lv_istore (lv' := [(5, .int 1), (4, .int 1), (3, .ref qo), (2, .ref q1), (1, .ref q0), (0, .ref b)]) hx hb dL_law_354 hl (by decide) rfl (fun ls hl => ?_)
  refine lv_aload_n hx hb dL_law_356 rfl (lv_at hl 3 rfl) ?_
  refine lv_aload_n hx hb dL_law_357 rfl (lv_at hl 5 rfl) ?_
  refine lv_iload hx hb dL_law_358 (lv_at hl 1 rfl) ?_
  refine lv_iconst (v := 1) hx hb dL_law_360 (by decide) ?_
  refine lv_iadd hx hb dL_law_361 ?_
  refine lv_topi (fun v231 ev231 => ?_)
  have ev231 : v231 = nI 2 := ev231.trans (by decide)
  subst ev231
  refine va_sld hx hb hX hbl hbA hS (vp_in_nI (n := 2) (by omega) (by omega)) dL_law_362 ?_
  refine lv_topi (fun a232 ea232 => ?_)
  refine lv_aload_n hx hb dL_law_363 rfl (lv_at hl 5 rfl) ?_
  refine lv_iload hx hb dL_law_364 (lv_at hl 1 rfl) ?_
  refine lv_iconst (v := 2) hx hb dL_law_366 (by decide) ?_
  refine lv_iadd hx hb dL_law_367 ?_
  refine lv_topi (fun v233 ev233 => ?_)
  have ev233 : v233 = nI 3 := ev233.trans (by decide)
  subst ev233
  refine va_sld hx hb hX hbl hbA hS (vp_in_nI (n := 3) (by omega) (by omega)) dL_law_368 ?_
  refine lv_topi (fun a234 ea234 => ?_)
  have hPm := hP.sub (ws' := mW q1 0 lm 0 (.ref qn :: fs)) [2] rfl
  have hq1 : s.heap.size ≤ q1 := hD.2 2 _ rfl
  refine va_calli (va_runV (As := [.int a232, .int a234]) (rest := []) ⟨hx, hb, hml, hown, hk⟩ (cM_add l dC dI q1 0 lm (.ref qn :: fs) a232 a234) (cwV 2 hk (gV k169 k170 k171 k71 k172) rfl rfl rfl (by decide +kernel) ⟨Nat.le_of_ble_eq_true rfl, Nat.le_of_ble_eq_true rfl⟩) ⟨mB, va_recv hK0 hPm (ci := 2) (q0 := 0) rfl rfl, mP hPm hK0⟩ rfl rfl hl.1 rfl (lv_room (Nat.le_of_ble_eq_true rfl)) dL_law_369 ⟨Nat.le_of_ble_eq_true rfl, Nat.le_of_ble_eq_true rfl⟩) hS (fun q _ h => by rw [h]; exact hq1) (fun q h => by rw [h]; exact hq1) (fun r235 u t H1 locs ht hvm hw hB hz1 hk1 hS => ?_)
  subst hw
  obtain ⟨hPm, hKm⟩ := hB
  rw [ht] at hPm
  generalize H1 = H at hPm hS ⊢
  refine lv_istore (lv' := [(6, .int 0), (5, .int 1), (4, .int 1), (3, .ref qo), (2, .ref q1), (1, .ref q0), (0, .ref b)]) hx hb dL_law_372 hl (by decide) rfl (fun ls hl => ?_)
  refine lv_aload_n hx hb dL_law_374 rfl (lv_at hl 4 rfl) ?_
  refine vp_callSi (W.runV (As := []) (rest := []) ⟨hx, hb, hml, hown, hk⟩ (cM_thrown9 l dC dI q1 1 lm 0 (.ref qn :: fs) _) (cwV 0 hk (gV k162 k163 k164 k71 k165) rfl rfl rfl (by decide +kernel) ⟨Nat.le_of_ble_eq_true rfl, Nat.le_of_ble_eq_true rfl⟩) ⟨nBl, va_recv hK0 hPm (ci := 2) (q0 := 0) rfl rfl, nPr hPm hK0 (mD (h0 := q1))⟩ rfl rfl hl.1 rfl (lv_room (Nat.le_of_ble_eq_true rfl)) dL_law_375 ⟨Nat.le_of_ble_eq_true rfl, Nat.le_of_ble_eq_true rfl⟩) (fun r236 hw => ?_)
  subst hw
  refine lv_iload hx hb dL_law_378 (lv_at hl 1 rfl) ?_
  refine lv_icmp_eq (tgt := 385) hx hb dL_law_380 (by decide) (fun c237 => ?_) (fun c237 => ?_)
  · skip
    refine lv_iload hx hb dL_law_385 (lv_at hl 1 rfl) ?_
    refine lv_if_ne (tgt := 402) hx hb dL_law_387 (by decide) (fun c238 => ?_) (fun c238 => ?_)
    · skip
      refine lv_goto (tgt := 1265) hx hb dL_law_402 (by decide) ?_
      refine W.widen (k := 25) (n := 344740) (Nat.le_of_ble_eq_true rfl) (Nat.le_of_ble_eq_true rfl) ?_
      exact kk _ _ ls hS (lv_sub hl [2, 6] rfl)
    · skip
      exact absurd c238 (by decide)
  · skip
    exact absurd c237 (by decide)
set_option maxHeartbeats 4000000 in
set_option maxRecDepth 100000 in
theorem la_3 {p : Program} {l : Launch} {e : Env} {s : State} {m : MethodId} {below : List Frame} {meth : Method} {c : Code} {b L : Nat} {xs : Nat → Int32} {Q : State → Prop} {dC : Nat → ClassId} {dI : Nat → Nat → Nat} {q0 qp q1 qn qo sa : Nat} {le lm : Int32} {cA cN cO : ClassId} {fo : Nat → Int64} {f : Nat → Int32} {fs : List Value} {H : Heap} {locs : List Loc} {ls : Array Slot}
    (htr : l.stackTraces = false) (hL8 : L = 8) (hx : p.tables.exec = Jvm.exec) (hb : c.code = bL_law) (hml : c.maxLocals = 7) (hown : s.vm.findClass "ImageGcdsLaw" = some m.cls) (hX : va_X b L xs s s.heap) (hbl : b < s.heap.size) (hk : ∀ w ∈ W0, w.before #[Value.ref b] s = true) (hK : va_K (dC, dI) cls9 [(cA, .object "ImageGcds$Poly"), (cN, .int), (cO, .long)] s) (hth : th_S s) (hstr : vk_R "ImageGcds" 139 "no such polynomial" sa s)
    (hP : va_P (dC, dI) cls9 [(q0, .inr (0, [.int le, .ref qp, .int 0, .null])), (qp, .inl (cA, 60, .inr (.inr (.inr (.inr (fun _ => none)))))), (q1, .inr (2, .int 0 :: .int lm :: .int 0 :: .ref qn :: fs)), (qn, .inl (cN, 290816, .inl f)), (qo, .inl (cO, 1, .inr (.inl fo)))] H) (hD : va_D (fun q : Nat => s.heap.size ≤ q) [(q0, .inr (0, [.int le, .ref qp, .int 0, .null])), (qp, .inl (cA, 60, .inr (.inr (.inr (.inr (fun _ => none)))))), (q1, .inr (2, .int 0 :: .int lm :: .int 0 :: .ref qn :: fs)), (qn, .inl (cN, 290816, .inl f)), (qo, .inl (cO, 1, .inr (.inl fo)))]) (hS : va_S (fun q : Nat => s.heap.size ≤ q) s.heap H locs) (hl : lv_has ls 7 [(4, .int 1), (3, .ref qo), (2, .ref q1), (1, .ref q0), (0, .ref b)])
    (kk : ∀ (H : Heap) (locs : List Loc) (ls : Array Slot), va_S (fun q : Nat => s.heap.size ≤ q) s.heap H locs → lv_has ls 7 [(4, .int 1), (0, .ref b)] → W p l e room_1 s m #[Value.ref b] below meth c H locs 25 344740 Q (F0 m 1265 ls [])) : W p l e room_1 s m #[Value.ref b] below meth c H locs 22 344734 Q (F0 m 405 ls []) := by
  have hA : ∀ q : Nat, s.heap.size ≤ q → (fun q : Nat => s.heap.size ≤ q) q := fun _ h => h
  have hbA : ¬ (fun q : Nat => s.heap.size ≤ q) b := Nat.not_le.mpr hbl
  have hK0 : va_K (dC, dI) cls9 [] s := hK.sub (tys' := []) [] rfl
  refine lv_aload_n hx hb dL_law_405 rfl (lv_at hl 3 rfl) ?_
  refine lv_aload_n hx hb dL_law_406 rfl (lv_at hl 4 rfl) ?_
  refine lv_iload hx hb dL_law_407 (lv_at hl 0 rfl) ?_
  refine lv_iconst (v := 1) hx hb dL_law_409 (by decide) ?_
  refine lv_iadd hx hb dL_law_410 ?_
  refine lv_topi (fun v239 ev239 => ?_)
  have ev239 : v239 = nI 2 := ev239.trans (by decide)
  subst ev239
  refine va_sld hx hb hX hbl hbA hS (vp_in_nI (n := 2) (by omega) (by omega)) dL_law_411 ?_
  refine lv_topi (fun a240 ea240 => ?_)
  refine lv_aload_n hx hb dL_law_412 rfl (lv_at hl 4 rfl) ?_
  refine lv_iload hx hb dL_law_413 (lv_at hl 0 rfl) ?_
  refine lv_iconst (v := 2) hx hb dL_law_415 (by decide) ?_
  refine lv_iadd hx hb dL_law_416 ?_
  refine lv_topi (fun v241 ev241 => ?_)
  have ev241 : v241 = nI 3 := ev241.trans (by decide)
  subst ev241
  refine va_sld hx hb hX hbl hbA hS (vp_in_nI (n := 3) (by omega) (by omega)) dL_law_417 ?_
  refine lv_topi (fun a242 ea242 => ?_)
  refine lv_aload_n hx hb dL_law_418 rfl (lv_at hl 1 rfl) ?_
  have hPg := hP.sub (ws' := [(q0, .inr (0, [.int le, .ref qp, .int 0, .null]))]) [0] rfl
  refine va_calli (th_runS (As := [.ref q0, .int a240, .int a242, .ref qo]) (rest := []) ⟨hx, hb, hml, hown, hk⟩ (cL_times l htr dC dI q0 le qp sa _ a240 a242 qo) (th_cs 4 hk (gS k173 k174 k156 k175) rfl rfl rfl (by decide +kernel) ⟨Nat.le_of_ble_eq_true rfl, Nat.le_of_ble_eq_true rfl⟩) ⟨gUs, fun U hU hW => ⟨rfl, by rw [hU], gUat hPg hK0 hth hstr hS U hU hW⟩⟩ rfl rfl hl.1 rfl (lv_room (Nat.le_of_ble_eq_true rfl)) dL_law_419 ⟨Nat.le_of_ble_eq_true rfl, Nat.le_of_ble_eq_true rfl⟩) hS (fun q h1 h2 => absurd h1 (Nat.not_lt.mpr h2)) (fun q h => Nat.le_trans hS.1 h) (fun r243 u t H1 locs ht hvm hw hB hz1 hk1 hS => ?_)
  subst hw
  have hP : va_P (dC, dI) cls9 [(q0, .inr (0, [.int le, .ref qp, .int 0, .null])), (qp, .inl (cA, 60, .inr (.inr (.inr (.inr (fun _ => none)))))), (q1, .inr (2, .int 0 :: .int lm :: .int 0 :: .ref qn :: fs)), (qn, .inl (cN, 290816, .inl f)), (qo, .inl (cO, 1, .inr (.inl fo)))] H1 := hP.kept (fun j x hx => hk1 x.1 ((hP j x hx).lt) (Nat.not_le.mpr ((hP j x hx).lt)))
  generalize H1 = H at hP hS ⊢
  refine lv_istore (lv' := [(5, .int 1), (4, .int 1), (3, .ref qo), (2, .ref q1), (1, .ref q0), (0, .ref b)]) hx hb dL_law_422 hl (by decide) rfl (fun ls hl => ?_)
  refine lv_aload_n hx hb dL_law_424 rfl (lv_at hl 3 rfl) ?_
  refine lv_aload_n hx hb dL_law_425 rfl (lv_at hl 5 rfl) ?_
  refine lv_iload hx hb dL_law_426 (lv_at hl 1 rfl) ?_
  refine lv_iconst (v := 1) hx hb dL_law_428 (by decide) ?_
  refine lv_iadd hx hb dL_law_429 ?_
  refine lv_topi (fun v244 ev244 => ?_)
  have ev244 : v244 = nI 2 := ev244.trans (by decide)
  subst ev244
  refine va_sld hx hb hX hbl hbA hS (vp_in_nI (n := 2) (by omega) (by omega)) dL_law_430 ?_
  refine lv_topi (fun a245 ea245 => ?_)
  refine lv_aload_n hx hb dL_law_431 rfl (lv_at hl 5 rfl) ?_
  refine lv_iload hx hb dL_law_432 (lv_at hl 1 rfl) ?_
  refine lv_iconst (v := 2) hx hb dL_law_434 (by decide) ?_
  refine lv_iadd hx hb dL_law_435 ?_
  refine lv_topi (fun v246 ev246 => ?_)
  have ev246 : v246 = nI 3 := ev246.trans (by decide)
  subst ev246
  refine va_sld hx hb hX hbl hbA hS (vp_in_nI (n := 3) (by omega) (by omega)) dL_law_436 ?_
  refine lv_topi (fun a247 ea247 => ?_)
  have hPm := hP.sub (ws' := mW q1 0 lm 0 (.ref qn :: fs)) [2] rfl
  have hq1 : s.heap.size ≤ q1 := hD.2 2 _ rfl
  refine va_calli (va_runV (As := [.int a245, .int a247]) (rest := []) ⟨hx, hb, hml, hown, hk⟩ (cM_times l dC dI q1 0 lm (.ref qn :: fs) a245 a247) (cwV 2 hk (gV k176 k177 k178 k71 k179) rfl rfl rfl (by decide +kernel) ⟨Nat.le_of_ble_eq_true rfl, Nat.le_of_ble_eq_true rfl⟩) ⟨mB, va_recv hK0 hPm (ci := 2) (q0 := 0) rfl rfl, mP hPm hK0⟩ rfl rfl hl.1 rfl (lv_room (Nat.le_of_ble_eq_true rfl)) dL_law_437 ⟨Nat.le_of_ble_eq_true rfl, Nat.le_of_ble_eq_true rfl⟩) hS (fun q _ h => by rw [h]; exact hq1) (fun q h => by rw [h]; exact hq1) (fun r248 u t H1 locs ht hvm hw hB hz1 hk1 hS => ?_)
  subst hw
  obtain ⟨hPm, hKm⟩ := hB
  rw [ht] at hPm
  generalize H1 = H at hPm hS ⊢
  refine lv_istore (lv' := [(6, .int 0), (5, .int 1), (4, .int 1), (3, .ref qo), (2, .ref q1), (1, .ref q0), (0, .ref b)]) hx hb dL_law_440 hl (by decide) rfl (fun ls hl => ?_)
  refine lv_aload_n hx hb dL_law_442 rfl (lv_at hl 4 rfl) ?_
  refine vp_callSi (W.runV (As := []) (rest := []) ⟨hx, hb, hml, hown, hk⟩ (cM_thrown9 l dC dI q1 1 lm 0 (.ref qn :: fs) _) (cwV 0 hk (gV k162 k163 k164 k71 k165) rfl rfl rfl (by decide +kernel) ⟨Nat.le_of_ble_eq_true rfl, Nat.le_of_ble_eq_true rfl⟩) ⟨nBl, va_recv hK0 hPm (ci := 2) (q0 := 0) rfl rfl, nPr hPm hK0 (mD (h0 := q1))⟩ rfl rfl hl.1 rfl (lv_room (Nat.le_of_ble_eq_true rfl)) dL_law_443 ⟨Nat.le_of_ble_eq_true rfl, Nat.le_of_ble_eq_true rfl⟩) (fun r249 hw => ?_)
  subst hw
  refine lv_iload hx hb dL_law_446 (lv_at hl 1 rfl) ?_
  refine lv_icmp_eq (tgt := 453) hx hb dL_law_448 (by decide) (fun c250 => ?_) (fun c250 => ?_)
  · skip
    refine lv_iload hx hb dL_law_453 (lv_at hl 1 rfl) ?_
    refine lv_if_ne (tgt := 470) hx hb dL_law_455 (by decide) (fun c251 => ?_) (fun c251 => ?_)
    · skip
      refine lv_goto (tgt := 1265) hx hb dL_law_470 (by decide) ?_
      refine W.widen (k := 25) (n := 344740) (Nat.le_of_ble_eq_true rfl) (Nat.le_of_ble_eq_true rfl) ?_
      exact kk _ _ ls hS (lv_sub hl [2, 6] rfl)
    · skip
      exact absurd c251 (by decide)
  · skip
    exact absurd c250 (by decide)
set_option maxHeartbeats 4000000 in
set_option maxRecDepth 100000 in
theorem la_4 {p : Program} {l : Launch} {e : Env} {s : State} {m : MethodId} {below : List Frame} {meth : Method} {c : Code} {b L : Nat} {xs : Nat → Int32} {Q : State → Prop} {dC : Nat → ClassId} {dI : Nat → Nat → Nat} {q0 qp q1 qn qo sa : Nat} {le lm : Int32} {cA cN cO : ClassId} {fo : Nat → Int64} {f : Nat → Int32} {fs : List Value} {H : Heap} {locs : List Loc} {ls : Array Slot}
    (htr : l.stackTraces = false) (hL8 : L = 8) (hx : p.tables.exec = Jvm.exec) (hb : c.code = bL_law) (hml : c.maxLocals = 7) (hown : s.vm.findClass "ImageGcdsLaw" = some m.cls) (hX : va_X b L xs s s.heap) (hbl : b < s.heap.size) (hk : ∀ w ∈ W0, w.before #[Value.ref b] s = true) (hK : va_K (dC, dI) cls9 [(cA, .object "ImageGcds$Poly"), (cN, .int), (cO, .long)] s) (hth : th_S s) (hstr : vk_R "ImageGcds" 139 "no such polynomial" sa s)
    (hP : va_P (dC, dI) cls9 [(q0, .inr (0, [.int le, .ref qp, .int 0, .null])), (qp, .inl (cA, 60, .inr (.inr (.inr (.inr (fun _ => none)))))), (q1, .inr (2, .int 0 :: .int lm :: .int 0 :: .ref qn :: fs)), (qn, .inl (cN, 290816, .inl f)), (qo, .inl (cO, 1, .inr (.inl fo)))] H) (hD : va_D (fun q : Nat => s.heap.size ≤ q) [(q0, .inr (0, [.int le, .ref qp, .int 0, .null])), (qp, .inl (cA, 60, .inr (.inr (.inr (.inr (fun _ => none)))))), (q1, .inr (2, .int 0 :: .int lm :: .int 0 :: .ref qn :: fs)), (qn, .inl (cN, 290816, .inl f)), (qo, .inl (cO, 1, .inr (.inl fo)))]) (hS : va_S (fun q : Nat => s.heap.size ≤ q) s.heap H locs) (hl : lv_has ls 7 [(4, .int 1), (3, .ref qo), (2, .ref q1), (1, .ref q0), (0, .ref b)])
    (kk : ∀ (H : Heap) (locs : List Loc) (ls : Array Slot), va_S (fun q : Nat => s.heap.size ≤ q) s.heap H locs → lv_has ls 7 [(4, .int 1), (0, .ref b)] → W p l e room_1 s m #[Value.ref b] below meth c H locs 25 344740 Q (F0 m 1265 ls [])) : W p l e room_1 s m #[Value.ref b] below meth c H locs 22 344734 Q (F0 m 473 ls []) := by
  have hA : ∀ q : Nat, s.heap.size ≤ q → (fun q : Nat => s.heap.size ≤ q) q := fun _ h => h
  have hbA : ¬ (fun q : Nat => s.heap.size ≤ q) b := Nat.not_le.mpr hbl
  have hK0 : va_K (dC, dI) cls9 [] s := hK.sub (tys' := []) [] rfl
  refine lv_aload_n hx hb dL_law_473 rfl (lv_at hl 3 rfl) ?_
  refine lv_aload_n hx hb dL_law_474 rfl (lv_at hl 4 rfl) ?_
  refine lv_iload hx hb dL_law_475 (lv_at hl 0 rfl) ?_
  refine lv_iconst (v := 1) hx hb dL_law_477 (by decide) ?_
  refine lv_iadd hx hb dL_law_478 ?_
  refine lv_topi (fun v252 ev252 => ?_)
  have ev252 : v252 = nI 2 := ev252.trans (by decide)
  subst ev252
  refine va_sld hx hb hX hbl hbA hS (vp_in_nI (n := 2) (by omega) (by omega)) dL_law_479 ?_
  refine lv_topi (fun a253 ea253 => ?_)
  refine lv_aload_n hx hb dL_law_480 rfl (lv_at hl 4 rfl) ?_
  refine lv_iload hx hb dL_law_481 (lv_at hl 0 rfl) ?_
  refine lv_iconst (v := 2) hx hb dL_law_483 (by decide) ?_
  refine lv_iadd hx hb dL_law_484 ?_
  refine lv_topi (fun v254 ev254 => ?_)
  have ev254 : v254 = nI 3 := ev254.trans (by decide)
  subst ev254
  refine va_sld hx hb hX hbl hbA hS (vp_in_nI (n := 3) (by omega) (by omega)) dL_law_485 ?_
  refine lv_topi (fun a255 ea255 => ?_)
  refine lv_aload_n hx hb dL_law_486 rfl (lv_at hl 1 rfl) ?_
  have hPg := hP.sub (ws' := [(q0, .inr (0, [.int le, .ref qp, .int 0, .null]))]) [0] rfl
  refine va_calli (th_runS (As := [.ref q0, .int a253, .int a255, .ref qo]) (rest := []) ⟨hx, hb, hml, hown, hk⟩ (cL_over l htr dC dI q0 le qp sa _ a253 a255 qo) (th_cs 4 hk (gS k180 k181 k156 k182) rfl rfl rfl (by decide +kernel) ⟨Nat.le_of_ble_eq_true rfl, Nat.le_of_ble_eq_true rfl⟩) ⟨gUs, fun U hU hW => ⟨rfl, by rw [hU], gUat hPg hK0 hth hstr hS U hU hW⟩⟩ rfl rfl hl.1 rfl (lv_room (Nat.le_of_ble_eq_true rfl)) dL_law_487 ⟨Nat.le_of_ble_eq_true rfl, Nat.le_of_ble_eq_true rfl⟩) hS (fun q h1 h2 => absurd h1 (Nat.not_lt.mpr h2)) (fun q h => Nat.le_trans hS.1 h) (fun r256 u t H1 locs ht hvm hw hB hz1 hk1 hS => ?_)
  subst hw
  have hP : va_P (dC, dI) cls9 [(q0, .inr (0, [.int le, .ref qp, .int 0, .null])), (qp, .inl (cA, 60, .inr (.inr (.inr (.inr (fun _ => none)))))), (q1, .inr (2, .int 0 :: .int lm :: .int 0 :: .ref qn :: fs)), (qn, .inl (cN, 290816, .inl f)), (qo, .inl (cO, 1, .inr (.inl fo)))] H1 := hP.kept (fun j x hx => hk1 x.1 ((hP j x hx).lt) (Nat.not_le.mpr ((hP j x hx).lt)))
  generalize H1 = H at hP hS ⊢
  refine lv_istore (lv' := [(5, .int 1), (4, .int 1), (3, .ref qo), (2, .ref q1), (1, .ref q0), (0, .ref b)]) hx hb dL_law_490 hl (by decide) rfl (fun ls hl => ?_)
  refine lv_aload_n hx hb dL_law_492 rfl (lv_at hl 3 rfl) ?_
  refine lv_aload_n hx hb dL_law_493 rfl (lv_at hl 5 rfl) ?_
  refine lv_iload hx hb dL_law_494 (lv_at hl 1 rfl) ?_
  refine lv_iconst (v := 1) hx hb dL_law_496 (by decide) ?_
  refine lv_iadd hx hb dL_law_497 ?_
  refine lv_topi (fun v257 ev257 => ?_)
  have ev257 : v257 = nI 2 := ev257.trans (by decide)
  subst ev257
  refine va_sld hx hb hX hbl hbA hS (vp_in_nI (n := 2) (by omega) (by omega)) dL_law_498 ?_
  refine lv_topi (fun a258 ea258 => ?_)
  refine lv_aload_n hx hb dL_law_499 rfl (lv_at hl 5 rfl) ?_
  refine lv_iload hx hb dL_law_500 (lv_at hl 1 rfl) ?_
  refine lv_iconst (v := 2) hx hb dL_law_502 (by decide) ?_
  refine lv_iadd hx hb dL_law_503 ?_
  refine lv_topi (fun v259 ev259 => ?_)
  have ev259 : v259 = nI 3 := ev259.trans (by decide)
  subst ev259
  refine va_sld hx hb hX hbl hbA hS (vp_in_nI (n := 3) (by omega) (by omega)) dL_law_504 ?_
  refine lv_topi (fun a260 ea260 => ?_)
  have hPm := hP.sub (ws' := mW q1 0 lm 0 (.ref qn :: fs)) [2] rfl
  have hq1 : s.heap.size ≤ q1 := hD.2 2 _ rfl
  refine va_calli (va_runV (As := [.int a258, .int a260]) (rest := []) ⟨hx, hb, hml, hown, hk⟩ (cM_over l dC dI q1 0 lm (.ref qn :: fs) a258 a260) (cwV 2 hk (gV k183 k184 k185 k71 k186) rfl rfl rfl (by decide +kernel) ⟨Nat.le_of_ble_eq_true rfl, Nat.le_of_ble_eq_true rfl⟩) ⟨mB, va_recv hK0 hPm (ci := 2) (q0 := 0) rfl rfl, mP hPm hK0⟩ rfl rfl hl.1 rfl (lv_room (Nat.le_of_ble_eq_true rfl)) dL_law_505 ⟨Nat.le_of_ble_eq_true rfl, Nat.le_of_ble_eq_true rfl⟩) hS (fun q _ h => by rw [h]; exact hq1) (fun q h => by rw [h]; exact hq1) (fun r261 u t H1 locs ht hvm hw hB hz1 hk1 hS => ?_)
  subst hw
  obtain ⟨hPm, hKm⟩ := hB
  rw [ht] at hPm
  generalize H1 = H at hPm hS ⊢
  refine lv_istore (lv' := [(6, .int 0), (5, .int 1), (4, .int 1), (3, .ref qo), (2, .ref q1), (1, .ref q0), (0, .ref b)]) hx hb dL_law_508 hl (by decide) rfl (fun ls hl => ?_)
  refine lv_aload_n hx hb dL_law_510 rfl (lv_at hl 4 rfl) ?_
  refine vp_callSi (W.runV (As := []) (rest := []) ⟨hx, hb, hml, hown, hk⟩ (cM_thrown9 l dC dI q1 1 lm 0 (.ref qn :: fs) _) (cwV 0 hk (gV k162 k163 k164 k71 k165) rfl rfl rfl (by decide +kernel) ⟨Nat.le_of_ble_eq_true rfl, Nat.le_of_ble_eq_true rfl⟩) ⟨nBl, va_recv hK0 hPm (ci := 2) (q0 := 0) rfl rfl, nPr hPm hK0 (mD (h0 := q1))⟩ rfl rfl hl.1 rfl (lv_room (Nat.le_of_ble_eq_true rfl)) dL_law_511 ⟨Nat.le_of_ble_eq_true rfl, Nat.le_of_ble_eq_true rfl⟩) (fun r262 hw => ?_)
  subst hw
  refine lv_iload hx hb dL_law_514 (lv_at hl 1 rfl) ?_
  refine lv_icmp_eq (tgt := 521) hx hb dL_law_516 (by decide) (fun c263 => ?_) (fun c263 => ?_)
  · skip
    refine lv_iload hx hb dL_law_521 (lv_at hl 1 rfl) ?_
    refine lv_if_ne (tgt := 538) hx hb dL_law_523 (by decide) (fun c264 => ?_) (fun c264 => ?_)
    · skip
      refine lv_goto (tgt := 1265) hx hb dL_law_538 (by decide) ?_
      refine W.widen (k := 25) (n := 344740) (Nat.le_of_ble_eq_true rfl) (Nat.le_of_ble_eq_true rfl) ?_
      exact kk _ _ ls hS (lv_sub hl [2, 6] rfl)
    · skip
      exact absurd c264 (by decide)
  · skip
    exact absurd c263 (by decide)
set_option maxHeartbeats 4000000 in
set_option maxRecDepth 100000 in
theorem la_5 {p : Program} {l : Launch} {e : Env} {s : State} {m : MethodId} {below : List Frame} {meth : Method} {c : Code} {b L : Nat} {xs : Nat → Int32} {Q : State → Prop} {dC : Nat → ClassId} {dI : Nat → Nat → Nat} {q0 qp q1 qn qo sa : Nat} {le lm : Int32} {cA cN cO : ClassId} {fo : Nat → Int64} {f : Nat → Int32} {fs : List Value} {H : Heap} {locs : List Loc} {ls : Array Slot}
    (htr : l.stackTraces = false) (hL8 : L = 8) (hx : p.tables.exec = Jvm.exec) (hb : c.code = bL_law) (hml : c.maxLocals = 7) (hown : s.vm.findClass "ImageGcdsLaw" = some m.cls) (hX : va_X b L xs s s.heap) (hbl : b < s.heap.size) (hk : ∀ w ∈ W0, w.before #[Value.ref b] s = true) (hK : va_K (dC, dI) cls9 [(cA, .object "ImageGcds$Poly"), (cN, .int), (cO, .long)] s) (hth : th_S s) (hstr : vk_R "ImageGcds" 139 "no such polynomial" sa s)
    (hP : va_P (dC, dI) cls9 [(q0, .inr (0, [.int le, .ref qp, .int 0, .null])), (qp, .inl (cA, 60, .inr (.inr (.inr (.inr (fun _ => none)))))), (q1, .inr (2, .int 0 :: .int lm :: .int 0 :: .ref qn :: fs)), (qn, .inl (cN, 290816, .inl f)), (qo, .inl (cO, 1, .inr (.inl fo)))] H) (hD : va_D (fun q : Nat => s.heap.size ≤ q) [(q0, .inr (0, [.int le, .ref qp, .int 0, .null])), (qp, .inl (cA, 60, .inr (.inr (.inr (.inr (fun _ => none)))))), (q1, .inr (2, .int 0 :: .int lm :: .int 0 :: .ref qn :: fs)), (qn, .inl (cN, 290816, .inl f)), (qo, .inl (cO, 1, .inr (.inl fo)))]) (hS : va_S (fun q : Nat => s.heap.size ≤ q) s.heap H locs) (hl : lv_has ls 7 [(4, .int 1), (3, .ref qo), (2, .ref q1), (1, .ref q0), (0, .ref b)])
    (kk : ∀ (H : Heap) (locs : List Loc) (ls : Array Slot), va_S (fun q : Nat => s.heap.size ≤ q) s.heap H locs → lv_has ls 7 [(4, .int 1), (0, .ref b)] → W p l e room_1 s m #[Value.ref b] below meth c H locs 25 344740 Q (F0 m 1265 ls [])) : W p l e room_1 s m #[Value.ref b] below meth c H locs 22 344734 Q (F0 m 541 ls []) := by
  have hA : ∀ q : Nat, s.heap.size ≤ q → (fun q : Nat => s.heap.size ≤ q) q := fun _ h => h
  have hbA : ¬ (fun q : Nat => s.heap.size ≤ q) b := Nat.not_le.mpr hbl
  have hK0 : va_K (dC, dI) cls9 [] s := hK.sub (tys' := []) [] rfl
  refine lv_aload_n hx hb dL_law_541 rfl (lv_at hl 3 rfl) ?_
  refine lv_aload_n hx hb dL_law_542 rfl (lv_at hl 4 rfl) ?_
  refine lv_iload hx hb dL_law_543 (lv_at hl 0 rfl) ?_
  refine lv_iconst (v := 1) hx hb dL_law_545 (by decide) ?_
  refine lv_iadd hx hb dL_law_546 ?_
  refine lv_topi (fun v265 ev265 => ?_)
  have ev265 : v265 = nI 2 := ev265.trans (by decide)
  subst ev265
  refine va_sld hx hb hX hbl hbA hS (vp_in_nI (n := 2) (by omega) (by omega)) dL_law_547 ?_
  refine lv_topi (fun a266 ea266 => ?_)
  refine lv_aload_n hx hb dL_law_548 rfl (lv_at hl 4 rfl) ?_
  refine lv_iload hx hb dL_law_549 (lv_at hl 0 rfl) ?_
  refine lv_iconst (v := 2) hx hb dL_law_551 (by decide) ?_
  refine lv_iadd hx hb dL_law_552 ?_
  refine lv_topi (fun v267 ev267 => ?_)
  have ev267 : v267 = nI 3 := ev267.trans (by decide)
  subst ev267
  refine va_sld hx hb hX hbl hbA hS (vp_in_nI (n := 3) (by omega) (by omega)) dL_law_553 ?_
  refine lv_topi (fun a268 ea268 => ?_)
  refine lv_aload_n hx hb dL_law_554 rfl (lv_at hl 1 rfl) ?_
  have hPg := hP.sub (ws' := [(q0, .inr (0, [.int le, .ref qp, .int 0, .null]))]) [0] rfl
  refine va_calli (th_runS (As := [.ref q0, .int a266, .int a268, .ref qo]) (rest := []) ⟨hx, hb, hml, hown, hk⟩ (cL_gcd l htr dC dI q0 le qp sa _ a266 a268 qo) (th_cs 4 hk (gS k187 k188 k156 k189) rfl rfl rfl (by decide +kernel) ⟨Nat.le_of_ble_eq_true rfl, Nat.le_of_ble_eq_true rfl⟩) ⟨gUs, fun U hU hW => ⟨rfl, by rw [hU], gUat hPg hK0 hth hstr hS U hU hW⟩⟩ rfl rfl hl.1 rfl (lv_room (Nat.le_of_ble_eq_true rfl)) dL_law_555 ⟨Nat.le_of_ble_eq_true rfl, Nat.le_of_ble_eq_true rfl⟩) hS (fun q h1 h2 => absurd h1 (Nat.not_lt.mpr h2)) (fun q h => Nat.le_trans hS.1 h) (fun r269 u t H1 locs ht hvm hw hB hz1 hk1 hS => ?_)
  subst hw
  have hP : va_P (dC, dI) cls9 [(q0, .inr (0, [.int le, .ref qp, .int 0, .null])), (qp, .inl (cA, 60, .inr (.inr (.inr (.inr (fun _ => none)))))), (q1, .inr (2, .int 0 :: .int lm :: .int 0 :: .ref qn :: fs)), (qn, .inl (cN, 290816, .inl f)), (qo, .inl (cO, 1, .inr (.inl fo)))] H1 := hP.kept (fun j x hx => hk1 x.1 ((hP j x hx).lt) (Nat.not_le.mpr ((hP j x hx).lt)))
  generalize H1 = H at hP hS ⊢
  refine lv_istore (lv' := [(5, .int 1), (4, .int 1), (3, .ref qo), (2, .ref q1), (1, .ref q0), (0, .ref b)]) hx hb dL_law_558 hl (by decide) rfl (fun ls hl => ?_)
  refine lv_aload_n hx hb dL_law_560 rfl (lv_at hl 3 rfl) ?_
  refine lv_aload_n hx hb dL_law_561 rfl (lv_at hl 5 rfl) ?_
  refine lv_iload hx hb dL_law_562 (lv_at hl 1 rfl) ?_
  refine lv_iconst (v := 1) hx hb dL_law_564 (by decide) ?_
  refine lv_iadd hx hb dL_law_565 ?_
  refine lv_topi (fun v270 ev270 => ?_)
  have ev270 : v270 = nI 2 := ev270.trans (by decide)
  subst ev270
  refine va_sld hx hb hX hbl hbA hS (vp_in_nI (n := 2) (by omega) (by omega)) dL_law_566 ?_
  refine lv_topi (fun a271 ea271 => ?_)
  refine lv_aload_n hx hb dL_law_567 rfl (lv_at hl 5 rfl) ?_
  refine lv_iload hx hb dL_law_568 (lv_at hl 1 rfl) ?_
  refine lv_iconst (v := 2) hx hb dL_law_570 (by decide) ?_
  refine lv_iadd hx hb dL_law_571 ?_
  refine lv_topi (fun v272 ev272 => ?_)
  have ev272 : v272 = nI 3 := ev272.trans (by decide)
  subst ev272
  refine va_sld hx hb hX hbl hbA hS (vp_in_nI (n := 3) (by omega) (by omega)) dL_law_572 ?_
  refine lv_topi (fun a273 ea273 => ?_)
  have hPm := hP.sub (ws' := mW q1 0 lm 0 (.ref qn :: fs)) [2] rfl
  have hq1 : s.heap.size ≤ q1 := hD.2 2 _ rfl
  refine va_calli (va_runV (As := [.int a271, .int a273]) (rest := []) ⟨hx, hb, hml, hown, hk⟩ (cM_gcd l dC dI q1 0 lm (.ref qn :: fs) a271 a273) (cwV 2 hk (gV k190 k191 k192 k71 k193) rfl rfl rfl (by decide +kernel) ⟨Nat.le_of_ble_eq_true rfl, Nat.le_of_ble_eq_true rfl⟩) ⟨mB, va_recv hK0 hPm (ci := 2) (q0 := 0) rfl rfl, mP hPm hK0⟩ rfl rfl hl.1 rfl (lv_room (Nat.le_of_ble_eq_true rfl)) dL_law_573 ⟨Nat.le_of_ble_eq_true rfl, Nat.le_of_ble_eq_true rfl⟩) hS (fun q _ h => by rw [h]; exact hq1) (fun q h => by rw [h]; exact hq1) (fun r274 u t H1 locs ht hvm hw hB hz1 hk1 hS => ?_)
  subst hw
  obtain ⟨hPm, hKm⟩ := hB
  rw [ht] at hPm
  generalize H1 = H at hPm hS ⊢
  refine lv_istore (lv' := [(6, .int 0), (5, .int 1), (4, .int 1), (3, .ref qo), (2, .ref q1), (1, .ref q0), (0, .ref b)]) hx hb dL_law_576 hl (by decide) rfl (fun ls hl => ?_)
  refine lv_aload_n hx hb dL_law_578 rfl (lv_at hl 4 rfl) ?_
  refine vp_callSi (W.runV (As := []) (rest := []) ⟨hx, hb, hml, hown, hk⟩ (cM_thrown9 l dC dI q1 1 lm 0 (.ref qn :: fs) _) (cwV 0 hk (gV k162 k163 k164 k71 k165) rfl rfl rfl (by decide +kernel) ⟨Nat.le_of_ble_eq_true rfl, Nat.le_of_ble_eq_true rfl⟩) ⟨nBl, va_recv hK0 hPm (ci := 2) (q0 := 0) rfl rfl, nPr hPm hK0 (mD (h0 := q1))⟩ rfl rfl hl.1 rfl (lv_room (Nat.le_of_ble_eq_true rfl)) dL_law_579 ⟨Nat.le_of_ble_eq_true rfl, Nat.le_of_ble_eq_true rfl⟩) (fun r275 hw => ?_)
  subst hw
  refine lv_iload hx hb dL_law_582 (lv_at hl 1 rfl) ?_
  refine lv_icmp_eq (tgt := 589) hx hb dL_law_584 (by decide) (fun c276 => ?_) (fun c276 => ?_)
  · skip
    refine lv_iload hx hb dL_law_589 (lv_at hl 1 rfl) ?_
    refine lv_if_ne (tgt := 606) hx hb dL_law_591 (by decide) (fun c277 => ?_) (fun c277 => ?_)
    · skip
      refine lv_goto (tgt := 1265) hx hb dL_law_606 (by decide) ?_
      refine W.widen (k := 25) (n := 344740) (Nat.le_of_ble_eq_true rfl) (Nat.le_of_ble_eq_true rfl) ?_
      exact kk _ _ ls hS (lv_sub hl [2, 6] rfl)
    · skip
      exact absurd c277 (by decide)
  · skip
    exact absurd c276 (by decide)
end
section
set_option maxHeartbeats 4000000 in
set_option maxRecDepth 100000 in
theorem la_6 {p : Program} {l : Launch} {e : Env} {s : State} {m : MethodId} {below : List Frame} {meth : Method} {c : Code} {b L : Nat} {xs : Nat → Int32} {Q : State → Prop} {dC : Nat → ClassId} {dI : Nat → Nat → Nat} {q0 qp q1 qn qo sa : Nat} {le lm : Int32} {cA cN cO : ClassId} {fo : Nat → Int64} {f : Nat → Int32} {fs : List Value} {H : Heap} {locs : List Loc} {ls : Array Slot}
    (htr : l.stackTraces = false) (hL8 : L = 8) (hx : p.tables.exec = Jvm.exec) (hb : c.code = bL_law) (hml : c.maxLocals = 7) (hown : s.vm.findClass "ImageGcdsLaw" = some m.cls) (hX : va_X b L xs s s.heap) (hbl : b < s.heap.size) (hk : ∀ w ∈ W0, w.before #[Value.ref b] s = true) (hK : va_K (dC, dI) cls9 [(cA, .object "ImageGcds$Poly"), (cN, .int), (cO, .long)] s) (hth : th_S s) (hstr : vk_R "ImageGcds" 139 "no such polynomial" sa s)
    (hP : va_P (dC, dI) cls9 [(q0, .inr (0, [.int le, .ref qp, .int 0, .null])), (qp, .inl (cA, 60, .inr (.inr (.inr (.inr (fun _ => none)))))), (q1, .inr (2, .int 0 :: .int lm :: .int 0 :: .ref qn :: fs)), (qn, .inl (cN, 290816, .inl f)), (qo, .inl (cO, 1, .inr (.inl fo)))] H) (hD : va_D (fun q : Nat => s.heap.size ≤ q) [(q0, .inr (0, [.int le, .ref qp, .int 0, .null])), (qp, .inl (cA, 60, .inr (.inr (.inr (.inr (fun _ => none)))))), (q1, .inr (2, .int 0 :: .int lm :: .int 0 :: .ref qn :: fs)), (qn, .inl (cN, 290816, .inl f)), (qo, .inl (cO, 1, .inr (.inl fo)))]) (hS : va_S (fun q : Nat => s.heap.size ≤ q) s.heap H locs) (hl : lv_has ls 7 [(4, .int 1), (3, .ref qo), (2, .ref q1), (1, .ref q0), (0, .ref b)])
    (kk : ∀ (H : Heap) (locs : List Loc) (ls : Array Slot), va_S (fun q : Nat => s.heap.size ≤ q) s.heap H locs → lv_has ls 7 [(4, .int 1), (0, .ref b)] → W p l e room_1 s m #[Value.ref b] below meth c H locs 25 344740 Q (F0 m 1265 ls [])) : W p l e room_1 s m #[Value.ref b] below meth c H locs 22 344734 Q (F0 m 609 ls []) := by
  have hA : ∀ q : Nat, s.heap.size ≤ q → (fun q : Nat => s.heap.size ≤ q) q := fun _ h => h
  have hbA : ¬ (fun q : Nat => s.heap.size ≤ q) b := Nat.not_le.mpr hbl
  have hK0 : va_K (dC, dI) cls9 [] s := hK.sub (tys' := []) [] rfl
  refine lv_aload_n hx hb dL_law_609 rfl (lv_at hl 3 rfl) ?_
  refine lv_aload_n hx hb dL_law_610 rfl (lv_at hl 4 rfl) ?_
  refine lv_iload hx hb dL_law_611 (lv_at hl 0 rfl) ?_
  refine lv_iconst (v := 1) hx hb dL_law_613 (by decide) ?_
  refine lv_iadd hx hb dL_law_614 ?_
  refine lv_topi (fun v278 ev278 => ?_)
  have ev278 : v278 = nI 2 := ev278.trans (by decide)
  subst ev278
  refine va_sld hx hb hX hbl hbA hS (vp_in_nI (n := 2) (by omega) (by omega)) dL_law_615 ?_
  refine lv_topi (fun a279 ea279 => ?_)
  refine lv_aload_n hx hb dL_law_616 rfl (lv_at hl 4 rfl) ?_
  refine lv_iload hx hb dL_law_617 (lv_at hl 0 rfl) ?_
  refine lv_iconst (v := 2) hx hb dL_law_619 (by decide) ?_
  refine lv_iadd hx hb dL_law_620 ?_
  refine lv_topi (fun v280 ev280 => ?_)
  have ev280 : v280 = nI 3 := ev280.trans (by decide)
  subst ev280
  refine va_sld hx hb hX hbl hbA hS (vp_in_nI (n := 3) (by omega) (by omega)) dL_law_621 ?_
  refine lv_topi (fun a281 ea281 => ?_)
  refine lv_aload_n hx hb dL_law_622 rfl (lv_at hl 4 rfl) ?_
  refine lv_iload hx hb dL_law_623 (lv_at hl 0 rfl) ?_
  refine lv_iconst (v := 3) hx hb dL_law_625 (by decide) ?_
  refine lv_iadd hx hb dL_law_626 ?_
  refine lv_topi (fun v282 ev282 => ?_)
  have ev282 : v282 = nI 4 := ev282.trans (by decide)
  subst ev282
  refine va_sld hx hb hX hbl hbA hS (vp_in_nI (n := 4) (by omega) (by omega)) dL_law_627 ?_
  refine lv_topi (fun a283 ea283 => ?_)
  refine lv_aload_n hx hb dL_law_628 rfl (lv_at hl 1 rfl) ?_
  have hPg := hP.sub (ws' := [(q0, .inr (0, [.int le, .ref qp, .int 0, .null]))]) [0] rfl
  refine va_calli (th_runS (As := [.ref q0, .int a279, .int a281, .int a283, .ref qo]) (rest := []) ⟨hx, hb, hml, hown, hk⟩ (cL_resultant l htr dC dI q0 le qp sa _ a279 a281 a283 qo) (th_cs 5 hk (gS k194 k195 k156 k196) rfl rfl rfl (by decide +kernel) ⟨Nat.le_of_ble_eq_true rfl, Nat.le_of_ble_eq_true rfl⟩) ⟨gUs, fun U hU hW => ⟨rfl, by rw [hU], gUat hPg hK0 hth hstr hS U hU hW⟩⟩ rfl rfl hl.1 rfl (lv_room (Nat.le_of_ble_eq_true rfl)) dL_law_629 ⟨Nat.le_of_ble_eq_true rfl, Nat.le_of_ble_eq_true rfl⟩) hS (fun q h1 h2 => absurd h1 (Nat.not_lt.mpr h2)) (fun q h => Nat.le_trans hS.1 h) (fun r284 u t H1 locs ht hvm hw hB hz1 hk1 hS => ?_)
  subst hw
  have hP : va_P (dC, dI) cls9 [(q0, .inr (0, [.int le, .ref qp, .int 0, .null])), (qp, .inl (cA, 60, .inr (.inr (.inr (.inr (fun _ => none)))))), (q1, .inr (2, .int 0 :: .int lm :: .int 0 :: .ref qn :: fs)), (qn, .inl (cN, 290816, .inl f)), (qo, .inl (cO, 1, .inr (.inl fo)))] H1 := hP.kept (fun j x hx => hk1 x.1 ((hP j x hx).lt) (Nat.not_le.mpr ((hP j x hx).lt)))
  generalize H1 = H at hP hS ⊢
  refine lv_istore (lv' := [(5, .int 1), (4, .int 1), (3, .ref qo), (2, .ref q1), (1, .ref q0), (0, .ref b)]) hx hb dL_law_632 hl (by decide) rfl (fun ls hl => ?_)
  refine lv_aload_n hx hb dL_law_634 rfl (lv_at hl 3 rfl) ?_
  refine lv_aload_n hx hb dL_law_635 rfl (lv_at hl 5 rfl) ?_
  refine lv_iload hx hb dL_law_636 (lv_at hl 1 rfl) ?_
  refine lv_iconst (v := 1) hx hb dL_law_638 (by decide) ?_
  refine lv_iadd hx hb dL_law_639 ?_
  refine lv_topi (fun v285 ev285 => ?_)
  have ev285 : v285 = nI 2 := ev285.trans (by decide)
  subst ev285
  refine va_sld hx hb hX hbl hbA hS (vp_in_nI (n := 2) (by omega) (by omega)) dL_law_640 ?_
  refine lv_topi (fun a286 ea286 => ?_)
  refine lv_aload_n hx hb dL_law_641 rfl (lv_at hl 5 rfl) ?_
  refine lv_iload hx hb dL_law_642 (lv_at hl 1 rfl) ?_
  refine lv_iconst (v := 2) hx hb dL_law_644 (by decide) ?_
  refine lv_iadd hx hb dL_law_645 ?_
  refine lv_topi (fun v287 ev287 => ?_)
  have ev287 : v287 = nI 3 := ev287.trans (by decide)
  subst ev287
  refine va_sld hx hb hX hbl hbA hS (vp_in_nI (n := 3) (by omega) (by omega)) dL_law_646 ?_
  refine lv_topi (fun a288 ea288 => ?_)
  refine lv_aload_n hx hb dL_law_647 rfl (lv_at hl 5 rfl) ?_
  refine lv_iload hx hb dL_law_648 (lv_at hl 1 rfl) ?_
  refine lv_iconst (v := 3) hx hb dL_law_650 (by decide) ?_
  refine lv_iadd hx hb dL_law_651 ?_
  refine lv_topi (fun v289 ev289 => ?_)
  have ev289 : v289 = nI 4 := ev289.trans (by decide)
  subst ev289
  refine va_sld hx hb hX hbl hbA hS (vp_in_nI (n := 4) (by omega) (by omega)) dL_law_652 ?_
  refine lv_topi (fun a290 ea290 => ?_)
  have hPm := hP.sub (ws' := mW q1 0 lm 0 (.ref qn :: fs)) [2] rfl
  have hq1 : s.heap.size ≤ q1 := hD.2 2 _ rfl
  refine va_calli (va_runV (As := [.int a286, .int a288, .int a290]) (rest := []) ⟨hx, hb, hml, hown, hk⟩ (cM_resultant l dC dI q1 0 lm (.ref qn :: fs) a286 a288 a290) (cwV 3 hk (gV k197 k198 k199 k71 k200) rfl rfl rfl (by decide +kernel) ⟨Nat.le_of_ble_eq_true rfl, Nat.le_of_ble_eq_true rfl⟩) ⟨mB, va_recv hK0 hPm (ci := 2) (q0 := 0) rfl rfl, mP hPm hK0⟩ rfl rfl hl.1 rfl (lv_room (Nat.le_of_ble_eq_true rfl)) dL_law_653 ⟨Nat.le_of_ble_eq_true rfl, Nat.le_of_ble_eq_true rfl⟩) hS (fun q _ h => by rw [h]; exact hq1) (fun q h => by rw [h]; exact hq1) (fun r291 u t H1 locs ht hvm hw hB hz1 hk1 hS => ?_)
  subst hw
  obtain ⟨hPm, hKm⟩ := hB
  rw [ht] at hPm
  generalize H1 = H at hPm hS ⊢
  refine lv_istore (lv' := [(6, .int 0), (5, .int 1), (4, .int 1), (3, .ref qo), (2, .ref q1), (1, .ref q0), (0, .ref b)]) hx hb dL_law_656 hl (by decide) rfl (fun ls hl => ?_)
  refine lv_aload_n hx hb dL_law_658 rfl (lv_at hl 4 rfl) ?_
  refine vp_callSi (W.runV (As := []) (rest := []) ⟨hx, hb, hml, hown, hk⟩ (cM_thrown9 l dC dI q1 1 lm 0 (.ref qn :: fs) _) (cwV 0 hk (gV k162 k163 k164 k71 k165) rfl rfl rfl (by decide +kernel) ⟨Nat.le_of_ble_eq_true rfl, Nat.le_of_ble_eq_true rfl⟩) ⟨nBl, va_recv hK0 hPm (ci := 2) (q0 := 0) rfl rfl, nPr hPm hK0 (mD (h0 := q1))⟩ rfl rfl hl.1 rfl (lv_room (Nat.le_of_ble_eq_true rfl)) dL_law_659 ⟨Nat.le_of_ble_eq_true rfl, Nat.le_of_ble_eq_true rfl⟩) (fun r292 hw => ?_)
  subst hw
  refine lv_iload hx hb dL_law_662 (lv_at hl 1 rfl) ?_
  refine lv_icmp_eq (tgt := 669) hx hb dL_law_664 (by decide) (fun c293 => ?_) (fun c293 => ?_)
  · skip
    refine lv_iload hx hb dL_law_669 (lv_at hl 1 rfl) ?_
    refine lv_if_ne (tgt := 686) hx hb dL_law_671 (by decide) (fun c294 => ?_) (fun c294 => ?_)
    · skip
      refine lv_goto (tgt := 1265) hx hb dL_law_686 (by decide) ?_
      refine W.widen (k := 25) (n := 344740) (Nat.le_of_ble_eq_true rfl) (Nat.le_of_ble_eq_true rfl) ?_
      exact kk _ _ ls hS (lv_sub hl [2, 6] rfl)
    · skip
      exact absurd c294 (by decide)
  · skip
    exact absurd c293 (by decide)
set_option maxHeartbeats 4000000 in
set_option maxRecDepth 100000 in
theorem la_7 {p : Program} {l : Launch} {e : Env} {s : State} {m : MethodId} {below : List Frame} {meth : Method} {c : Code} {b L : Nat} {xs : Nat → Int32} {Q : State → Prop} {dC : Nat → ClassId} {dI : Nat → Nat → Nat} {q0 qp q1 qn qo sa : Nat} {le lm : Int32} {cA cN cO : ClassId} {fo : Nat → Int64} {f : Nat → Int32} {fs : List Value} {H : Heap} {locs : List Loc} {ls : Array Slot}
    (htr : l.stackTraces = false) (hL8 : L = 8) (hx : p.tables.exec = Jvm.exec) (hb : c.code = bL_law) (hml : c.maxLocals = 7) (hown : s.vm.findClass "ImageGcdsLaw" = some m.cls) (hX : va_X b L xs s s.heap) (hbl : b < s.heap.size) (hk : ∀ w ∈ W0, w.before #[Value.ref b] s = true) (hK : va_K (dC, dI) cls9 [(cA, .object "ImageGcds$Poly"), (cN, .int), (cO, .long)] s) (hth : th_S s) (hstr : vk_R "ImageGcds" 139 "no such polynomial" sa s)
    (hP : va_P (dC, dI) cls9 [(q0, .inr (0, [.int le, .ref qp, .int 0, .null])), (qp, .inl (cA, 60, .inr (.inr (.inr (.inr (fun _ => none)))))), (q1, .inr (2, .int 0 :: .int lm :: .int 0 :: .ref qn :: fs)), (qn, .inl (cN, 290816, .inl f)), (qo, .inl (cO, 1, .inr (.inl fo)))] H) (hD : va_D (fun q : Nat => s.heap.size ≤ q) [(q0, .inr (0, [.int le, .ref qp, .int 0, .null])), (qp, .inl (cA, 60, .inr (.inr (.inr (.inr (fun _ => none)))))), (q1, .inr (2, .int 0 :: .int lm :: .int 0 :: .ref qn :: fs)), (qn, .inl (cN, 290816, .inl f)), (qo, .inl (cO, 1, .inr (.inl fo)))]) (hS : va_S (fun q : Nat => s.heap.size ≤ q) s.heap H locs) (hl : lv_has ls 7 [(4, .int 1), (3, .ref qo), (2, .ref q1), (1, .ref q0), (0, .ref b)])
    (kk : ∀ (H : Heap) (locs : List Loc) (ls : Array Slot), va_S (fun q : Nat => s.heap.size ≤ q) s.heap H locs → lv_has ls 7 [(4, .int 1), (0, .ref b)] → W p l e room_1 s m #[Value.ref b] below meth c H locs 25 344740 Q (F0 m 1265 ls [])) : W p l e room_1 s m #[Value.ref b] below meth c H locs 22 344734 Q (F0 m 689 ls []) := by
  have hA : ∀ q : Nat, s.heap.size ≤ q → (fun q : Nat => s.heap.size ≤ q) q := fun _ h => h
  have hbA : ¬ (fun q : Nat => s.heap.size ≤ q) b := Nat.not_le.mpr hbl
  have hK0 : va_K (dC, dI) cls9 [] s := hK.sub (tys' := []) [] rfl
  refine lv_aload_n hx hb dL_law_689 rfl (lv_at hl 3 rfl) ?_
  refine lv_aload_n hx hb dL_law_690 rfl (lv_at hl 4 rfl) ?_
  refine lv_iload hx hb dL_law_691 (lv_at hl 0 rfl) ?_
  refine lv_iconst (v := 1) hx hb dL_law_693 (by decide) ?_
  refine lv_iadd hx hb dL_law_694 ?_
  refine lv_topi (fun v295 ev295 => ?_)
  have ev295 : v295 = nI 2 := ev295.trans (by decide)
  subst ev295
  refine va_sld hx hb hX hbl hbA hS (vp_in_nI (n := 2) (by omega) (by omega)) dL_law_695 ?_
  refine lv_topi (fun a296 ea296 => ?_)
  refine lv_aload_n hx hb dL_law_696 rfl (lv_at hl 4 rfl) ?_
  refine lv_iload hx hb dL_law_697 (lv_at hl 0 rfl) ?_
  refine lv_iconst (v := 2) hx hb dL_law_699 (by decide) ?_
  refine lv_iadd hx hb dL_law_700 ?_
  refine lv_topi (fun v297 ev297 => ?_)
  have ev297 : v297 = nI 3 := ev297.trans (by decide)
  subst ev297
  refine va_sld hx hb hX hbl hbA hS (vp_in_nI (n := 3) (by omega) (by omega)) dL_law_701 ?_
  refine lv_topi (fun a298 ea298 => ?_)
  refine lv_aload_n hx hb dL_law_702 rfl (lv_at hl 1 rfl) ?_
  have hPg := hP.sub (ws' := [(q0, .inr (0, [.int le, .ref qp, .int 0, .null]))]) [0] rfl
  refine va_calli (th_runS (As := [.ref q0, .int a296, .int a298, .ref qo]) (rest := []) ⟨hx, hb, hml, hown, hk⟩ (cL_slope l htr dC dI q0 le qp sa _ a296 a298 qo) (th_cs 4 hk (gS k201 k202 k156 k203) rfl rfl rfl (by decide +kernel) ⟨Nat.le_of_ble_eq_true rfl, Nat.le_of_ble_eq_true rfl⟩) ⟨gUs, fun U hU hW => ⟨rfl, by rw [hU], gUat hPg hK0 hth hstr hS U hU hW⟩⟩ rfl rfl hl.1 rfl (lv_room (Nat.le_of_ble_eq_true rfl)) dL_law_703 ⟨Nat.le_of_ble_eq_true rfl, Nat.le_of_ble_eq_true rfl⟩) hS (fun q h1 h2 => absurd h1 (Nat.not_lt.mpr h2)) (fun q h => Nat.le_trans hS.1 h) (fun r299 u t H1 locs ht hvm hw hB hz1 hk1 hS => ?_)
  subst hw
  have hP : va_P (dC, dI) cls9 [(q0, .inr (0, [.int le, .ref qp, .int 0, .null])), (qp, .inl (cA, 60, .inr (.inr (.inr (.inr (fun _ => none)))))), (q1, .inr (2, .int 0 :: .int lm :: .int 0 :: .ref qn :: fs)), (qn, .inl (cN, 290816, .inl f)), (qo, .inl (cO, 1, .inr (.inl fo)))] H1 := hP.kept (fun j x hx => hk1 x.1 ((hP j x hx).lt) (Nat.not_le.mpr ((hP j x hx).lt)))
  generalize H1 = H at hP hS ⊢
  refine lv_istore (lv' := [(5, .int 1), (4, .int 1), (3, .ref qo), (2, .ref q1), (1, .ref q0), (0, .ref b)]) hx hb dL_law_706 hl (by decide) rfl (fun ls hl => ?_)
  refine lv_aload_n hx hb dL_law_708 rfl (lv_at hl 3 rfl) ?_
  refine lv_aload_n hx hb dL_law_709 rfl (lv_at hl 5 rfl) ?_
  refine lv_iload hx hb dL_law_710 (lv_at hl 1 rfl) ?_
  refine lv_iconst (v := 1) hx hb dL_law_712 (by decide) ?_
  refine lv_iadd hx hb dL_law_713 ?_
  refine lv_topi (fun v300 ev300 => ?_)
  have ev300 : v300 = nI 2 := ev300.trans (by decide)
  subst ev300
  refine va_sld hx hb hX hbl hbA hS (vp_in_nI (n := 2) (by omega) (by omega)) dL_law_714 ?_
  refine lv_topi (fun a301 ea301 => ?_)
  refine lv_aload_n hx hb dL_law_715 rfl (lv_at hl 5 rfl) ?_
  refine lv_iload hx hb dL_law_716 (lv_at hl 1 rfl) ?_
  refine lv_iconst (v := 2) hx hb dL_law_718 (by decide) ?_
  refine lv_iadd hx hb dL_law_719 ?_
  refine lv_topi (fun v302 ev302 => ?_)
  have ev302 : v302 = nI 3 := ev302.trans (by decide)
  subst ev302
  refine va_sld hx hb hX hbl hbA hS (vp_in_nI (n := 3) (by omega) (by omega)) dL_law_720 ?_
  refine lv_topi (fun a303 ea303 => ?_)
  have hPm := hP.sub (ws' := mW q1 0 lm 0 (.ref qn :: fs)) [2] rfl
  have hq1 : s.heap.size ≤ q1 := hD.2 2 _ rfl
  refine va_calli (va_runV (As := [.int a301, .int a303]) (rest := []) ⟨hx, hb, hml, hown, hk⟩ (cM_slope l dC dI q1 0 lm (.ref qn :: fs) a301 a303) (cwV 2 hk (gV k204 k205 k206 k71 k207) rfl rfl rfl (by decide +kernel) ⟨Nat.le_of_ble_eq_true rfl, Nat.le_of_ble_eq_true rfl⟩) ⟨mB, va_recv hK0 hPm (ci := 2) (q0 := 0) rfl rfl, mP hPm hK0⟩ rfl rfl hl.1 rfl (lv_room (Nat.le_of_ble_eq_true rfl)) dL_law_721 ⟨Nat.le_of_ble_eq_true rfl, Nat.le_of_ble_eq_true rfl⟩) hS (fun q _ h => by rw [h]; exact hq1) (fun q h => by rw [h]; exact hq1) (fun r304 u t H1 locs ht hvm hw hB hz1 hk1 hS => ?_)
  subst hw
  obtain ⟨hPm, hKm⟩ := hB
  rw [ht] at hPm
  generalize H1 = H at hPm hS ⊢
  refine lv_istore (lv' := [(6, .int 0), (5, .int 1), (4, .int 1), (3, .ref qo), (2, .ref q1), (1, .ref q0), (0, .ref b)]) hx hb dL_law_724 hl (by decide) rfl (fun ls hl => ?_)
  refine lv_aload_n hx hb dL_law_726 rfl (lv_at hl 4 rfl) ?_
  refine vp_callSi (W.runV (As := []) (rest := []) ⟨hx, hb, hml, hown, hk⟩ (cM_thrown9 l dC dI q1 1 lm 0 (.ref qn :: fs) _) (cwV 0 hk (gV k162 k163 k164 k71 k165) rfl rfl rfl (by decide +kernel) ⟨Nat.le_of_ble_eq_true rfl, Nat.le_of_ble_eq_true rfl⟩) ⟨nBl, va_recv hK0 hPm (ci := 2) (q0 := 0) rfl rfl, nPr hPm hK0 (mD (h0 := q1))⟩ rfl rfl hl.1 rfl (lv_room (Nat.le_of_ble_eq_true rfl)) dL_law_727 ⟨Nat.le_of_ble_eq_true rfl, Nat.le_of_ble_eq_true rfl⟩) (fun r305 hw => ?_)
  subst hw
  refine lv_iload hx hb dL_law_730 (lv_at hl 1 rfl) ?_
  refine lv_icmp_eq (tgt := 737) hx hb dL_law_732 (by decide) (fun c306 => ?_) (fun c306 => ?_)
  · skip
    refine lv_iload hx hb dL_law_737 (lv_at hl 1 rfl) ?_
    refine lv_if_ne (tgt := 754) hx hb dL_law_739 (by decide) (fun c307 => ?_) (fun c307 => ?_)
    · skip
      refine lv_goto (tgt := 1265) hx hb dL_law_754 (by decide) ?_
      refine W.widen (k := 25) (n := 344740) (Nat.le_of_ble_eq_true rfl) (Nat.le_of_ble_eq_true rfl) ?_
      exact kk _ _ ls hS (lv_sub hl [2, 6] rfl)
    · skip
      exact absurd c307 (by decide)
  · skip
    exact absurd c306 (by decide)
set_option maxHeartbeats 4000000 in
set_option maxRecDepth 100000 in
theorem la_8 {p : Program} {l : Launch} {e : Env} {s : State} {m : MethodId} {below : List Frame} {meth : Method} {c : Code} {b L : Nat} {xs : Nat → Int32} {Q : State → Prop} {dC : Nat → ClassId} {dI : Nat → Nat → Nat} {q0 qp q1 qn qo sa : Nat} {le lm : Int32} {cA cN cO : ClassId} {fo : Nat → Int64} {f : Nat → Int32} {fs : List Value} {H : Heap} {locs : List Loc} {ls : Array Slot}
    (htr : l.stackTraces = false) (hL8 : L = 8) (hx : p.tables.exec = Jvm.exec) (hb : c.code = bL_law) (hml : c.maxLocals = 7) (hown : s.vm.findClass "ImageGcdsLaw" = some m.cls) (hX : va_X b L xs s s.heap) (hbl : b < s.heap.size) (hk : ∀ w ∈ W0, w.before #[Value.ref b] s = true) (hK : va_K (dC, dI) cls9 [(cA, .object "ImageGcds$Poly"), (cN, .int), (cO, .long)] s) (hth : th_S s) (hstr : vk_R "ImageGcds" 139 "no such polynomial" sa s)
    (hP : va_P (dC, dI) cls9 [(q0, .inr (0, [.int le, .ref qp, .int 0, .null])), (qp, .inl (cA, 60, .inr (.inr (.inr (.inr (fun _ => none)))))), (q1, .inr (2, .int 0 :: .int lm :: .int 0 :: .ref qn :: fs)), (qn, .inl (cN, 290816, .inl f)), (qo, .inl (cO, 1, .inr (.inl fo)))] H) (hD : va_D (fun q : Nat => s.heap.size ≤ q) [(q0, .inr (0, [.int le, .ref qp, .int 0, .null])), (qp, .inl (cA, 60, .inr (.inr (.inr (.inr (fun _ => none)))))), (q1, .inr (2, .int 0 :: .int lm :: .int 0 :: .ref qn :: fs)), (qn, .inl (cN, 290816, .inl f)), (qo, .inl (cO, 1, .inr (.inl fo)))]) (hS : va_S (fun q : Nat => s.heap.size ≤ q) s.heap H locs) (hl : lv_has ls 7 [(4, .int 1), (3, .ref qo), (2, .ref q1), (1, .ref q0), (0, .ref b)])
    (kk : ∀ (H : Heap) (locs : List Loc) (ls : Array Slot), va_S (fun q : Nat => s.heap.size ≤ q) s.heap H locs → lv_has ls 7 [(4, .int 1), (0, .ref b)] → W p l e room_1 s m #[Value.ref b] below meth c H locs 25 344740 Q (F0 m 1265 ls [])) : W p l e room_1 s m #[Value.ref b] below meth c H locs 22 344734 Q (F0 m 757 ls []) := by
  have hA : ∀ q : Nat, s.heap.size ≤ q → (fun q : Nat => s.heap.size ≤ q) q := fun _ h => h
  have hbA : ¬ (fun q : Nat => s.heap.size ≤ q) b := Nat.not_le.mpr hbl
  have hK0 : va_K (dC, dI) cls9 [] s := hK.sub (tys' := []) [] rfl
  refine lv_aload_n hx hb dL_law_757 rfl (lv_at hl 3 rfl) ?_
  refine lv_aload_n hx hb dL_law_758 rfl (lv_at hl 4 rfl) ?_
  refine lv_iload hx hb dL_law_759 (lv_at hl 0 rfl) ?_
  refine lv_iconst (v := 1) hx hb dL_law_761 (by decide) ?_
  refine lv_iadd hx hb dL_law_762 ?_
  refine lv_topi (fun v308 ev308 => ?_)
  have ev308 : v308 = nI 2 := ev308.trans (by decide)
  subst ev308
  refine va_sld hx hb hX hbl hbA hS (vp_in_nI (n := 2) (by omega) (by omega)) dL_law_763 ?_
  refine lv_topi (fun a309 ea309 => ?_)
  refine lv_aload_n hx hb dL_law_764 rfl (lv_at hl 4 rfl) ?_
  refine lv_iload hx hb dL_law_765 (lv_at hl 0 rfl) ?_
  refine lv_iconst (v := 2) hx hb dL_law_767 (by decide) ?_
  refine lv_iadd hx hb dL_law_768 ?_
  refine lv_topi (fun v310 ev310 => ?_)
  have ev310 : v310 = nI 3 := ev310.trans (by decide)
  subst ev310
  refine va_sld hx hb hX hbl hbA hS (vp_in_nI (n := 3) (by omega) (by omega)) dL_law_769 ?_
  refine lv_topi (fun a311 ea311 => ?_)
  refine lv_aload_n hx hb dL_law_770 rfl (lv_at hl 1 rfl) ?_
  have hPg := hP.sub (ws' := [(q0, .inr (0, [.int le, .ref qp, .int 0, .null]))]) [0] rfl
  refine va_calli (th_runS (As := [.ref q0, .int a309, .int a311, .ref qo]) (rest := []) ⟨hx, hb, hml, hown, hk⟩ (cL_content l htr dC dI q0 le qp sa _ a309 a311 qo) (th_cs 4 hk (gS k208 k209 k156 k210) rfl rfl rfl (by decide +kernel) ⟨Nat.le_of_ble_eq_true rfl, Nat.le_of_ble_eq_true rfl⟩) ⟨gUs, fun U hU hW => ⟨rfl, by rw [hU], gUat hPg hK0 hth hstr hS U hU hW⟩⟩ rfl rfl hl.1 rfl (lv_room (Nat.le_of_ble_eq_true rfl)) dL_law_771 ⟨Nat.le_of_ble_eq_true rfl, Nat.le_of_ble_eq_true rfl⟩) hS (fun q h1 h2 => absurd h1 (Nat.not_lt.mpr h2)) (fun q h => Nat.le_trans hS.1 h) (fun r312 u t H1 locs ht hvm hw hB hz1 hk1 hS => ?_)
  subst hw
  have hP : va_P (dC, dI) cls9 [(q0, .inr (0, [.int le, .ref qp, .int 0, .null])), (qp, .inl (cA, 60, .inr (.inr (.inr (.inr (fun _ => none)))))), (q1, .inr (2, .int 0 :: .int lm :: .int 0 :: .ref qn :: fs)), (qn, .inl (cN, 290816, .inl f)), (qo, .inl (cO, 1, .inr (.inl fo)))] H1 := hP.kept (fun j x hx => hk1 x.1 ((hP j x hx).lt) (Nat.not_le.mpr ((hP j x hx).lt)))
  generalize H1 = H at hP hS ⊢
  refine lv_istore (lv' := [(5, .int 1), (4, .int 1), (3, .ref qo), (2, .ref q1), (1, .ref q0), (0, .ref b)]) hx hb dL_law_774 hl (by decide) rfl (fun ls hl => ?_)
  refine lv_aload_n hx hb dL_law_776 rfl (lv_at hl 3 rfl) ?_
  refine lv_aload_n hx hb dL_law_777 rfl (lv_at hl 5 rfl) ?_
  refine lv_iload hx hb dL_law_778 (lv_at hl 1 rfl) ?_
  refine lv_iconst (v := 1) hx hb dL_law_780 (by decide) ?_
  refine lv_iadd hx hb dL_law_781 ?_
  refine lv_topi (fun v313 ev313 => ?_)
  have ev313 : v313 = nI 2 := ev313.trans (by decide)
  subst ev313
  refine va_sld hx hb hX hbl hbA hS (vp_in_nI (n := 2) (by omega) (by omega)) dL_law_782 ?_
  refine lv_topi (fun a314 ea314 => ?_)
  refine lv_aload_n hx hb dL_law_783 rfl (lv_at hl 5 rfl) ?_
  refine lv_iload hx hb dL_law_784 (lv_at hl 1 rfl) ?_
  refine lv_iconst (v := 2) hx hb dL_law_786 (by decide) ?_
  refine lv_iadd hx hb dL_law_787 ?_
  refine lv_topi (fun v315 ev315 => ?_)
  have ev315 : v315 = nI 3 := ev315.trans (by decide)
  subst ev315
  refine va_sld hx hb hX hbl hbA hS (vp_in_nI (n := 3) (by omega) (by omega)) dL_law_788 ?_
  refine lv_topi (fun a316 ea316 => ?_)
  have hPm := hP.sub (ws' := mW q1 0 lm 0 (.ref qn :: fs)) [2] rfl
  have hq1 : s.heap.size ≤ q1 := hD.2 2 _ rfl
  refine va_calli (va_runV (As := [.int a314, .int a316]) (rest := []) ⟨hx, hb, hml, hown, hk⟩ (cM_content l dC dI q1 0 lm (.ref qn :: fs) a314 a316) (cwV 2 hk (gV k211 k212 k213 k71 k214) rfl rfl rfl (by decide +kernel) ⟨Nat.le_of_ble_eq_true rfl, Nat.le_of_ble_eq_true rfl⟩) ⟨mB, va_recv hK0 hPm (ci := 2) (q0 := 0) rfl rfl, mP hPm hK0⟩ rfl rfl hl.1 rfl (lv_room (Nat.le_of_ble_eq_true rfl)) dL_law_789 ⟨Nat.le_of_ble_eq_true rfl, Nat.le_of_ble_eq_true rfl⟩) hS (fun q _ h => by rw [h]; exact hq1) (fun q h => by rw [h]; exact hq1) (fun r317 u t H1 locs ht hvm hw hB hz1 hk1 hS => ?_)
  subst hw
  obtain ⟨hPm, hKm⟩ := hB
  rw [ht] at hPm
  generalize H1 = H at hPm hS ⊢
  refine lv_istore (lv' := [(6, .int 0), (5, .int 1), (4, .int 1), (3, .ref qo), (2, .ref q1), (1, .ref q0), (0, .ref b)]) hx hb dL_law_792 hl (by decide) rfl (fun ls hl => ?_)
  refine lv_aload_n hx hb dL_law_794 rfl (lv_at hl 4 rfl) ?_
  refine vp_callSi (W.runV (As := []) (rest := []) ⟨hx, hb, hml, hown, hk⟩ (cM_thrown9 l dC dI q1 1 lm 0 (.ref qn :: fs) _) (cwV 0 hk (gV k162 k163 k164 k71 k165) rfl rfl rfl (by decide +kernel) ⟨Nat.le_of_ble_eq_true rfl, Nat.le_of_ble_eq_true rfl⟩) ⟨nBl, va_recv hK0 hPm (ci := 2) (q0 := 0) rfl rfl, nPr hPm hK0 (mD (h0 := q1))⟩ rfl rfl hl.1 rfl (lv_room (Nat.le_of_ble_eq_true rfl)) dL_law_795 ⟨Nat.le_of_ble_eq_true rfl, Nat.le_of_ble_eq_true rfl⟩) (fun r318 hw => ?_)
  subst hw
  refine lv_iload hx hb dL_law_798 (lv_at hl 1 rfl) ?_
  refine lv_icmp_eq (tgt := 805) hx hb dL_law_800 (by decide) (fun c319 => ?_) (fun c319 => ?_)
  · skip
    refine lv_iload hx hb dL_law_805 (lv_at hl 1 rfl) ?_
    refine lv_if_ne (tgt := 822) hx hb dL_law_807 (by decide) (fun c320 => ?_) (fun c320 => ?_)
    · skip
      refine lv_goto (tgt := 1265) hx hb dL_law_822 (by decide) ?_
      refine W.widen (k := 25) (n := 344740) (Nat.le_of_ble_eq_true rfl) (Nat.le_of_ble_eq_true rfl) ?_
      exact kk _ _ ls hS (lv_sub hl [2, 6] rfl)
    · skip
      exact absurd c320 (by decide)
  · skip
    exact absurd c319 (by decide)
set_option maxHeartbeats 4000000 in
set_option maxRecDepth 100000 in
theorem la_9 {p : Program} {l : Launch} {e : Env} {s : State} {m : MethodId} {below : List Frame} {meth : Method} {c : Code} {b L : Nat} {xs : Nat → Int32} {Q : State → Prop} {dC : Nat → ClassId} {dI : Nat → Nat → Nat} {q0 qp q1 qn qo sa : Nat} {le lm : Int32} {cA cN cO : ClassId} {fo : Nat → Int64} {f : Nat → Int32} {fs : List Value} {H : Heap} {locs : List Loc} {ls : Array Slot}
    (htr : l.stackTraces = false) (hL8 : L = 8) (hx : p.tables.exec = Jvm.exec) (hb : c.code = bL_law) (hml : c.maxLocals = 7) (hown : s.vm.findClass "ImageGcdsLaw" = some m.cls) (hX : va_X b L xs s s.heap) (hbl : b < s.heap.size) (hk : ∀ w ∈ W0, w.before #[Value.ref b] s = true) (hK : va_K (dC, dI) cls9 [(cA, .object "ImageGcds$Poly"), (cN, .int), (cO, .long)] s) (hth : th_S s) (hstr : vk_R "ImageGcds" 139 "no such polynomial" sa s)
    (hP : va_P (dC, dI) cls9 [(q0, .inr (0, [.int le, .ref qp, .int 0, .null])), (qp, .inl (cA, 60, .inr (.inr (.inr (.inr (fun _ => none)))))), (q1, .inr (2, .int 0 :: .int lm :: .int 0 :: .ref qn :: fs)), (qn, .inl (cN, 290816, .inl f)), (qo, .inl (cO, 1, .inr (.inl fo)))] H) (hD : va_D (fun q : Nat => s.heap.size ≤ q) [(q0, .inr (0, [.int le, .ref qp, .int 0, .null])), (qp, .inl (cA, 60, .inr (.inr (.inr (.inr (fun _ => none)))))), (q1, .inr (2, .int 0 :: .int lm :: .int 0 :: .ref qn :: fs)), (qn, .inl (cN, 290816, .inl f)), (qo, .inl (cO, 1, .inr (.inl fo)))]) (hS : va_S (fun q : Nat => s.heap.size ≤ q) s.heap H locs) (hl : lv_has ls 7 [(4, .int 1), (3, .ref qo), (2, .ref q1), (1, .ref q0), (0, .ref b)])
    (kk : ∀ (H : Heap) (locs : List Loc) (ls : Array Slot), va_S (fun q : Nat => s.heap.size ≤ q) s.heap H locs → lv_has ls 7 [(4, .int 1), (0, .ref b)] → W p l e room_1 s m #[Value.ref b] below meth c H locs 25 344740 Q (F0 m 1265 ls [])) : W p l e room_1 s m #[Value.ref b] below meth c H locs 22 344734 Q (F0 m 825 ls []) := by
  have hA : ∀ q : Nat, s.heap.size ≤ q → (fun q : Nat => s.heap.size ≤ q) q := fun _ h => h
  have hbA : ¬ (fun q : Nat => s.heap.size ≤ q) b := Nat.not_le.mpr hbl
  have hK0 : va_K (dC, dI) cls9 [] s := hK.sub (tys' := []) [] rfl
  refine lv_aload_n hx hb dL_law_825 rfl (lv_at hl 3 rfl) ?_
  refine lv_aload_n hx hb dL_law_826 rfl (lv_at hl 4 rfl) ?_
  refine lv_iload hx hb dL_law_827 (lv_at hl 0 rfl) ?_
  refine lv_iconst (v := 1) hx hb dL_law_829 (by decide) ?_
  refine lv_iadd hx hb dL_law_830 ?_
  refine lv_topi (fun v321 ev321 => ?_)
  have ev321 : v321 = nI 2 := ev321.trans (by decide)
  subst ev321
  refine va_sld hx hb hX hbl hbA hS (vp_in_nI (n := 2) (by omega) (by omega)) dL_law_831 ?_
  refine lv_topi (fun a322 ea322 => ?_)
  refine lv_aload_n hx hb dL_law_832 rfl (lv_at hl 4 rfl) ?_
  refine lv_iload hx hb dL_law_833 (lv_at hl 0 rfl) ?_
  refine lv_iconst (v := 2) hx hb dL_law_835 (by decide) ?_
  refine lv_iadd hx hb dL_law_836 ?_
  refine lv_topi (fun v323 ev323 => ?_)
  have ev323 : v323 = nI 3 := ev323.trans (by decide)
  subst ev323
  refine va_sld hx hb hX hbl hbA hS (vp_in_nI (n := 3) (by omega) (by omega)) dL_law_837 ?_
  refine lv_topi (fun a324 ea324 => ?_)
  refine lv_aload_n hx hb dL_law_838 rfl (lv_at hl 1 rfl) ?_
  have hPg := hP.sub (ws' := [(q0, .inr (0, [.int le, .ref qp, .int 0, .null]))]) [0] rfl
  refine va_calli (th_runS (As := [.ref q0, .int a322, .int a324, .ref qo]) (rest := []) ⟨hx, hb, hml, hown, hk⟩ (cL_part l htr dC dI q0 le qp sa _ a322 a324 qo) (th_cs 4 hk (gS k215 k216 k156 k217) rfl rfl rfl (by decide +kernel) ⟨Nat.le_of_ble_eq_true rfl, Nat.le_of_ble_eq_true rfl⟩) ⟨gUs, fun U hU hW => ⟨rfl, by rw [hU], gUat hPg hK0 hth hstr hS U hU hW⟩⟩ rfl rfl hl.1 rfl (lv_room (Nat.le_of_ble_eq_true rfl)) dL_law_839 ⟨Nat.le_of_ble_eq_true rfl, Nat.le_of_ble_eq_true rfl⟩) hS (fun q h1 h2 => absurd h1 (Nat.not_lt.mpr h2)) (fun q h => Nat.le_trans hS.1 h) (fun r325 u t H1 locs ht hvm hw hB hz1 hk1 hS => ?_)
  subst hw
  have hP : va_P (dC, dI) cls9 [(q0, .inr (0, [.int le, .ref qp, .int 0, .null])), (qp, .inl (cA, 60, .inr (.inr (.inr (.inr (fun _ => none)))))), (q1, .inr (2, .int 0 :: .int lm :: .int 0 :: .ref qn :: fs)), (qn, .inl (cN, 290816, .inl f)), (qo, .inl (cO, 1, .inr (.inl fo)))] H1 := hP.kept (fun j x hx => hk1 x.1 ((hP j x hx).lt) (Nat.not_le.mpr ((hP j x hx).lt)))
  generalize H1 = H at hP hS ⊢
  refine lv_istore (lv' := [(5, .int 1), (4, .int 1), (3, .ref qo), (2, .ref q1), (1, .ref q0), (0, .ref b)]) hx hb dL_law_842 hl (by decide) rfl (fun ls hl => ?_)
  refine lv_aload_n hx hb dL_law_844 rfl (lv_at hl 3 rfl) ?_
  refine lv_aload_n hx hb dL_law_845 rfl (lv_at hl 5 rfl) ?_
  refine lv_iload hx hb dL_law_846 (lv_at hl 1 rfl) ?_
  refine lv_iconst (v := 1) hx hb dL_law_848 (by decide) ?_
  refine lv_iadd hx hb dL_law_849 ?_
  refine lv_topi (fun v326 ev326 => ?_)
  have ev326 : v326 = nI 2 := ev326.trans (by decide)
  subst ev326
  refine va_sld hx hb hX hbl hbA hS (vp_in_nI (n := 2) (by omega) (by omega)) dL_law_850 ?_
  refine lv_topi (fun a327 ea327 => ?_)
  refine lv_aload_n hx hb dL_law_851 rfl (lv_at hl 5 rfl) ?_
  refine lv_iload hx hb dL_law_852 (lv_at hl 1 rfl) ?_
  refine lv_iconst (v := 2) hx hb dL_law_854 (by decide) ?_
  refine lv_iadd hx hb dL_law_855 ?_
  refine lv_topi (fun v328 ev328 => ?_)
  have ev328 : v328 = nI 3 := ev328.trans (by decide)
  subst ev328
  refine va_sld hx hb hX hbl hbA hS (vp_in_nI (n := 3) (by omega) (by omega)) dL_law_856 ?_
  refine lv_topi (fun a329 ea329 => ?_)
  have hPm := hP.sub (ws' := mW q1 0 lm 0 (.ref qn :: fs)) [2] rfl
  have hq1 : s.heap.size ≤ q1 := hD.2 2 _ rfl
  refine va_calli (va_runV (As := [.int a327, .int a329]) (rest := []) ⟨hx, hb, hml, hown, hk⟩ (cM_part l dC dI q1 0 lm (.ref qn :: fs) a327 a329) (cwV 2 hk (gV k218 k219 k220 k71 k221) rfl rfl rfl (by decide +kernel) ⟨Nat.le_of_ble_eq_true rfl, Nat.le_of_ble_eq_true rfl⟩) ⟨mB, va_recv hK0 hPm (ci := 2) (q0 := 0) rfl rfl, mP hPm hK0⟩ rfl rfl hl.1 rfl (lv_room (Nat.le_of_ble_eq_true rfl)) dL_law_857 ⟨Nat.le_of_ble_eq_true rfl, Nat.le_of_ble_eq_true rfl⟩) hS (fun q _ h => by rw [h]; exact hq1) (fun q h => by rw [h]; exact hq1) (fun r330 u t H1 locs ht hvm hw hB hz1 hk1 hS => ?_)
  subst hw
  obtain ⟨hPm, hKm⟩ := hB
  rw [ht] at hPm
  generalize H1 = H at hPm hS ⊢
  refine lv_istore (lv' := [(6, .int 0), (5, .int 1), (4, .int 1), (3, .ref qo), (2, .ref q1), (1, .ref q0), (0, .ref b)]) hx hb dL_law_860 hl (by decide) rfl (fun ls hl => ?_)
  refine lv_aload_n hx hb dL_law_862 rfl (lv_at hl 4 rfl) ?_
  refine vp_callSi (W.runV (As := []) (rest := []) ⟨hx, hb, hml, hown, hk⟩ (cM_thrown9 l dC dI q1 1 lm 0 (.ref qn :: fs) _) (cwV 0 hk (gV k162 k163 k164 k71 k165) rfl rfl rfl (by decide +kernel) ⟨Nat.le_of_ble_eq_true rfl, Nat.le_of_ble_eq_true rfl⟩) ⟨nBl, va_recv hK0 hPm (ci := 2) (q0 := 0) rfl rfl, nPr hPm hK0 (mD (h0 := q1))⟩ rfl rfl hl.1 rfl (lv_room (Nat.le_of_ble_eq_true rfl)) dL_law_863 ⟨Nat.le_of_ble_eq_true rfl, Nat.le_of_ble_eq_true rfl⟩) (fun r331 hw => ?_)
  subst hw
  refine lv_iload hx hb dL_law_866 (lv_at hl 1 rfl) ?_
  refine lv_icmp_eq (tgt := 873) hx hb dL_law_868 (by decide) (fun c332 => ?_) (fun c332 => ?_)
  · skip
    refine lv_iload hx hb dL_law_873 (lv_at hl 1 rfl) ?_
    refine lv_if_ne (tgt := 890) hx hb dL_law_875 (by decide) (fun c333 => ?_) (fun c333 => ?_)
    · skip
      refine lv_goto (tgt := 1265) hx hb dL_law_890 (by decide) ?_
      refine W.widen (k := 25) (n := 344740) (Nat.le_of_ble_eq_true rfl) (Nat.le_of_ble_eq_true rfl) ?_
      exact kk _ _ ls hS (lv_sub hl [2, 6] rfl)
    · skip
      exact absurd c333 (by decide)
  · skip
    exact absurd c332 (by decide)
set_option maxHeartbeats 4000000 in
set_option maxRecDepth 100000 in
theorem la_10 {p : Program} {l : Launch} {e : Env} {s : State} {m : MethodId} {below : List Frame} {meth : Method} {c : Code} {b L : Nat} {xs : Nat → Int32} {Q : State → Prop} {dC : Nat → ClassId} {dI : Nat → Nat → Nat} {q0 qp q1 qn qo sa : Nat} {le lm : Int32} {cA cN cO : ClassId} {fo : Nat → Int64} {f : Nat → Int32} {fs : List Value} {H : Heap} {locs : List Loc} {ls : Array Slot}
    (htr : l.stackTraces = false) (hL8 : L = 8) (hx : p.tables.exec = Jvm.exec) (hb : c.code = bL_law) (hml : c.maxLocals = 7) (hown : s.vm.findClass "ImageGcdsLaw" = some m.cls) (hX : va_X b L xs s s.heap) (hbl : b < s.heap.size) (hk : ∀ w ∈ W0, w.before #[Value.ref b] s = true) (hK : va_K (dC, dI) cls9 [(cA, .object "ImageGcds$Poly"), (cN, .int), (cO, .long)] s) (hth : th_S s) (hstr : vk_R "ImageGcds" 139 "no such polynomial" sa s)
    (hP : va_P (dC, dI) cls9 [(q0, .inr (0, [.int le, .ref qp, .int 0, .null])), (qp, .inl (cA, 60, .inr (.inr (.inr (.inr (fun _ => none)))))), (q1, .inr (2, .int 0 :: .int lm :: .int 0 :: .ref qn :: fs)), (qn, .inl (cN, 290816, .inl f)), (qo, .inl (cO, 1, .inr (.inl fo)))] H) (hD : va_D (fun q : Nat => s.heap.size ≤ q) [(q0, .inr (0, [.int le, .ref qp, .int 0, .null])), (qp, .inl (cA, 60, .inr (.inr (.inr (.inr (fun _ => none)))))), (q1, .inr (2, .int 0 :: .int lm :: .int 0 :: .ref qn :: fs)), (qn, .inl (cN, 290816, .inl f)), (qo, .inl (cO, 1, .inr (.inl fo)))]) (hS : va_S (fun q : Nat => s.heap.size ≤ q) s.heap H locs) (hl : lv_has ls 7 [(4, .int 1), (3, .ref qo), (2, .ref q1), (1, .ref q0), (0, .ref b)])
    (kk : ∀ (H : Heap) (locs : List Loc) (ls : Array Slot), va_S (fun q : Nat => s.heap.size ≤ q) s.heap H locs → lv_has ls 7 [(4, .int 1), (0, .ref b)] → W p l e room_1 s m #[Value.ref b] below meth c H locs 25 344740 Q (F0 m 1265 ls [])) : W p l e room_1 s m #[Value.ref b] below meth c H locs 22 344734 Q (F0 m 893 ls []) := by
  have hA : ∀ q : Nat, s.heap.size ≤ q → (fun q : Nat => s.heap.size ≤ q) q := fun _ h => h
  have hbA : ¬ (fun q : Nat => s.heap.size ≤ q) b := Nat.not_le.mpr hbl
  have hK0 : va_K (dC, dI) cls9 [] s := hK.sub (tys' := []) [] rfl
  refine lv_aload_n hx hb dL_law_893 rfl (lv_at hl 3 rfl) ?_
  refine lv_aload_n hx hb dL_law_894 rfl (lv_at hl 4 rfl) ?_
  refine lv_iload hx hb dL_law_895 (lv_at hl 0 rfl) ?_
  refine lv_iconst (v := 1) hx hb dL_law_897 (by decide) ?_
  refine lv_iadd hx hb dL_law_898 ?_
  refine lv_topi (fun v334 ev334 => ?_)
  have ev334 : v334 = nI 2 := ev334.trans (by decide)
  subst ev334
  refine va_sld hx hb hX hbl hbA hS (vp_in_nI (n := 2) (by omega) (by omega)) dL_law_899 ?_
  refine lv_topi (fun a335 ea335 => ?_)
  refine lv_aload_n hx hb dL_law_900 rfl (lv_at hl 4 rfl) ?_
  refine lv_iload hx hb dL_law_901 (lv_at hl 0 rfl) ?_
  refine lv_iconst (v := 2) hx hb dL_law_903 (by decide) ?_
  refine lv_iadd hx hb dL_law_904 ?_
  refine lv_topi (fun v336 ev336 => ?_)
  have ev336 : v336 = nI 3 := ev336.trans (by decide)
  subst ev336
  refine va_sld hx hb hX hbl hbA hS (vp_in_nI (n := 3) (by omega) (by omega)) dL_law_905 ?_
  refine lv_topi (fun a337 ea337 => ?_)
  refine lv_aload_n hx hb dL_law_906 rfl (lv_at hl 4 rfl) ?_
  refine lv_iload hx hb dL_law_907 (lv_at hl 0 rfl) ?_
  refine lv_iconst (v := 3) hx hb dL_law_909 (by decide) ?_
  refine lv_iadd hx hb dL_law_910 ?_
  refine lv_topi (fun v338 ev338 => ?_)
  have ev338 : v338 = nI 4 := ev338.trans (by decide)
  subst ev338
  refine va_sld hx hb hX hbl hbA hS (vp_in_nI (n := 4) (by omega) (by omega)) dL_law_911 ?_
  refine lv_topi (fun a339 ea339 => ?_)
  refine lv_aload_n hx hb dL_law_912 rfl (lv_at hl 1 rfl) ?_
  have hPg := hP.sub (ws' := [(q0, .inr (0, [.int le, .ref qp, .int 0, .null]))]) [0] rfl
  refine va_calli (th_runS (As := [.ref q0, .int a335, .int a337, .int a339, .ref qo]) (rest := []) ⟨hx, hb, hml, hown, hk⟩ (cL_image l htr dC dI q0 le qp sa _ a335 a337 a339 qo) (th_cs 5 hk (gS k222 k223 k156 k224) rfl rfl rfl (by decide +kernel) ⟨Nat.le_of_ble_eq_true rfl, Nat.le_of_ble_eq_true rfl⟩) ⟨gUs, fun U hU hW => ⟨rfl, by rw [hU], gUat hPg hK0 hth hstr hS U hU hW⟩⟩ rfl rfl hl.1 rfl (lv_room (Nat.le_of_ble_eq_true rfl)) dL_law_913 ⟨Nat.le_of_ble_eq_true rfl, Nat.le_of_ble_eq_true rfl⟩) hS (fun q h1 h2 => absurd h1 (Nat.not_lt.mpr h2)) (fun q h => Nat.le_trans hS.1 h) (fun r340 u t H1 locs ht hvm hw hB hz1 hk1 hS => ?_)
  subst hw
  have hP : va_P (dC, dI) cls9 [(q0, .inr (0, [.int le, .ref qp, .int 0, .null])), (qp, .inl (cA, 60, .inr (.inr (.inr (.inr (fun _ => none)))))), (q1, .inr (2, .int 0 :: .int lm :: .int 0 :: .ref qn :: fs)), (qn, .inl (cN, 290816, .inl f)), (qo, .inl (cO, 1, .inr (.inl fo)))] H1 := hP.kept (fun j x hx => hk1 x.1 ((hP j x hx).lt) (Nat.not_le.mpr ((hP j x hx).lt)))
  generalize H1 = H at hP hS ⊢
  refine lv_istore (lv' := [(5, .int 1), (4, .int 1), (3, .ref qo), (2, .ref q1), (1, .ref q0), (0, .ref b)]) hx hb dL_law_916 hl (by decide) rfl (fun ls hl => ?_)
  refine lv_aload_n hx hb dL_law_918 rfl (lv_at hl 3 rfl) ?_
  refine lv_aload_n hx hb dL_law_919 rfl (lv_at hl 5 rfl) ?_
  refine lv_iload hx hb dL_law_920 (lv_at hl 1 rfl) ?_
  refine lv_iconst (v := 1) hx hb dL_law_922 (by decide) ?_
  refine lv_iadd hx hb dL_law_923 ?_
  refine lv_topi (fun v341 ev341 => ?_)
  have ev341 : v341 = nI 2 := ev341.trans (by decide)
  subst ev341
  refine va_sld hx hb hX hbl hbA hS (vp_in_nI (n := 2) (by omega) (by omega)) dL_law_924 ?_
  refine lv_topi (fun a342 ea342 => ?_)
  refine lv_aload_n hx hb dL_law_925 rfl (lv_at hl 5 rfl) ?_
  refine lv_iload hx hb dL_law_926 (lv_at hl 1 rfl) ?_
  refine lv_iconst (v := 2) hx hb dL_law_928 (by decide) ?_
  refine lv_iadd hx hb dL_law_929 ?_
  refine lv_topi (fun v343 ev343 => ?_)
  have ev343 : v343 = nI 3 := ev343.trans (by decide)
  subst ev343
  refine va_sld hx hb hX hbl hbA hS (vp_in_nI (n := 3) (by omega) (by omega)) dL_law_930 ?_
  refine lv_topi (fun a344 ea344 => ?_)
  refine lv_aload_n hx hb dL_law_931 rfl (lv_at hl 5 rfl) ?_
  refine lv_iload hx hb dL_law_932 (lv_at hl 1 rfl) ?_
  refine lv_iconst (v := 3) hx hb dL_law_934 (by decide) ?_
  refine lv_iadd hx hb dL_law_935 ?_
  refine lv_topi (fun v345 ev345 => ?_)
  have ev345 : v345 = nI 4 := ev345.trans (by decide)
  subst ev345
  refine va_sld hx hb hX hbl hbA hS (vp_in_nI (n := 4) (by omega) (by omega)) dL_law_936 ?_
  refine lv_topi (fun a346 ea346 => ?_)
  have hPm := hP.sub (ws' := mW q1 0 lm 0 (.ref qn :: fs)) [2] rfl
  have hq1 : s.heap.size ≤ q1 := hD.2 2 _ rfl
  refine va_calli (va_runV (As := [.int a342, .int a344, .int a346]) (rest := []) ⟨hx, hb, hml, hown, hk⟩ (cM_image l dC dI q1 0 lm (.ref qn :: fs) a342 a344 a346) (cwV 3 hk (gV k225 k226 k227 k71 k228) rfl rfl rfl (by decide +kernel) ⟨Nat.le_of_ble_eq_true rfl, Nat.le_of_ble_eq_true rfl⟩) ⟨mB, va_recv hK0 hPm (ci := 2) (q0 := 0) rfl rfl, mP hPm hK0⟩ rfl rfl hl.1 rfl (lv_room (Nat.le_of_ble_eq_true rfl)) dL_law_937 ⟨Nat.le_of_ble_eq_true rfl, Nat.le_of_ble_eq_true rfl⟩) hS (fun q _ h => by rw [h]; exact hq1) (fun q h => by rw [h]; exact hq1) (fun r347 u t H1 locs ht hvm hw hB hz1 hk1 hS => ?_)
  subst hw
  obtain ⟨hPm, hKm⟩ := hB
  rw [ht] at hPm
  generalize H1 = H at hPm hS ⊢
  refine lv_istore (lv' := [(6, .int 0), (5, .int 1), (4, .int 1), (3, .ref qo), (2, .ref q1), (1, .ref q0), (0, .ref b)]) hx hb dL_law_940 hl (by decide) rfl (fun ls hl => ?_)
  refine lv_aload_n hx hb dL_law_942 rfl (lv_at hl 4 rfl) ?_
  refine vp_callSi (W.runV (As := []) (rest := []) ⟨hx, hb, hml, hown, hk⟩ (cM_thrown9 l dC dI q1 1 lm 0 (.ref qn :: fs) _) (cwV 0 hk (gV k162 k163 k164 k71 k165) rfl rfl rfl (by decide +kernel) ⟨Nat.le_of_ble_eq_true rfl, Nat.le_of_ble_eq_true rfl⟩) ⟨nBl, va_recv hK0 hPm (ci := 2) (q0 := 0) rfl rfl, nPr hPm hK0 (mD (h0 := q1))⟩ rfl rfl hl.1 rfl (lv_room (Nat.le_of_ble_eq_true rfl)) dL_law_943 ⟨Nat.le_of_ble_eq_true rfl, Nat.le_of_ble_eq_true rfl⟩) (fun r348 hw => ?_)
  subst hw
  refine lv_iload hx hb dL_law_946 (lv_at hl 1 rfl) ?_
  refine lv_icmp_eq (tgt := 953) hx hb dL_law_948 (by decide) (fun c349 => ?_) (fun c349 => ?_)
  · skip
    refine lv_iload hx hb dL_law_953 (lv_at hl 1 rfl) ?_
    refine lv_if_ne (tgt := 970) hx hb dL_law_955 (by decide) (fun c350 => ?_) (fun c350 => ?_)
    · skip
      refine lv_goto (tgt := 1265) hx hb dL_law_970 (by decide) ?_
      refine W.widen (k := 25) (n := 344740) (Nat.le_of_ble_eq_true rfl) (Nat.le_of_ble_eq_true rfl) ?_
      exact kk _ _ ls hS (lv_sub hl [2, 6] rfl)
    · skip
      exact absurd c350 (by decide)
  · skip
    exact absurd c349 (by decide)
end
section
set_option maxHeartbeats 4000000 in
set_option maxRecDepth 100000 in
theorem la_11 {p : Program} {l : Launch} {e : Env} {s : State} {m : MethodId} {below : List Frame} {meth : Method} {c : Code} {b L : Nat} {xs : Nat → Int32} {Q : State → Prop} {dC : Nat → ClassId} {dI : Nat → Nat → Nat} {q0 qp q1 qn qo sa : Nat} {le lm : Int32} {cA cN cO : ClassId} {fo : Nat → Int64} {f : Nat → Int32} {fs : List Value} {H : Heap} {locs : List Loc} {ls : Array Slot}
    (htr : l.stackTraces = false) (hL8 : L = 8) (hx : p.tables.exec = Jvm.exec) (hb : c.code = bL_law) (hml : c.maxLocals = 7) (hown : s.vm.findClass "ImageGcdsLaw" = some m.cls) (hX : va_X b L xs s s.heap) (hbl : b < s.heap.size) (hk : ∀ w ∈ W0, w.before #[Value.ref b] s = true) (hK : va_K (dC, dI) cls9 [(cA, .object "ImageGcds$Poly"), (cN, .int), (cO, .long)] s) (hth : th_S s) (hstr : vk_R "ImageGcds" 139 "no such polynomial" sa s)
    (hP : va_P (dC, dI) cls9 [(q0, .inr (0, [.int le, .ref qp, .int 0, .null])), (qp, .inl (cA, 60, .inr (.inr (.inr (.inr (fun _ => none)))))), (q1, .inr (2, .int 0 :: .int lm :: .int 0 :: .ref qn :: fs)), (qn, .inl (cN, 290816, .inl f)), (qo, .inl (cO, 1, .inr (.inl fo)))] H) (hD : va_D (fun q : Nat => s.heap.size ≤ q) [(q0, .inr (0, [.int le, .ref qp, .int 0, .null])), (qp, .inl (cA, 60, .inr (.inr (.inr (.inr (fun _ => none)))))), (q1, .inr (2, .int 0 :: .int lm :: .int 0 :: .ref qn :: fs)), (qn, .inl (cN, 290816, .inl f)), (qo, .inl (cO, 1, .inr (.inl fo)))]) (hS : va_S (fun q : Nat => s.heap.size ≤ q) s.heap H locs) (hl : lv_has ls 7 [(4, .int 1), (3, .ref qo), (2, .ref q1), (1, .ref q0), (0, .ref b)])
    (kk : ∀ (H : Heap) (locs : List Loc) (ls : Array Slot), va_S (fun q : Nat => s.heap.size ≤ q) s.heap H locs → lv_has ls 7 [(4, .int 1), (0, .ref b)] → W p l e room_1 s m #[Value.ref b] below meth c H locs 25 344740 Q (F0 m 1265 ls [])) : W p l e room_1 s m #[Value.ref b] below meth c H locs 22 344734 Q (F0 m 973 ls []) := by
  have hA : ∀ q : Nat, s.heap.size ≤ q → (fun q : Nat => s.heap.size ≤ q) q := fun _ h => h
  have hbA : ¬ (fun q : Nat => s.heap.size ≤ q) b := Nat.not_le.mpr hbl
  have hK0 : va_K (dC, dI) cls9 [] s := hK.sub (tys' := []) [] rfl
  refine lv_aload_n hx hb dL_law_973 rfl (lv_at hl 3 rfl) ?_
  refine lv_aload_n hx hb dL_law_974 rfl (lv_at hl 4 rfl) ?_
  refine lv_iload hx hb dL_law_975 (lv_at hl 0 rfl) ?_
  refine lv_iconst (v := 1) hx hb dL_law_977 (by decide) ?_
  refine lv_iadd hx hb dL_law_978 ?_
  refine lv_topi (fun v351 ev351 => ?_)
  have ev351 : v351 = nI 2 := ev351.trans (by decide)
  subst ev351
  refine va_sld hx hb hX hbl hbA hS (vp_in_nI (n := 2) (by omega) (by omega)) dL_law_979 ?_
  refine lv_topi (fun a352 ea352 => ?_)
  refine lv_aload_n hx hb dL_law_980 rfl (lv_at hl 4 rfl) ?_
  refine lv_iload hx hb dL_law_981 (lv_at hl 0 rfl) ?_
  refine lv_iconst (v := 2) hx hb dL_law_983 (by decide) ?_
  refine lv_iadd hx hb dL_law_984 ?_
  refine lv_topi (fun v353 ev353 => ?_)
  have ev353 : v353 = nI 3 := ev353.trans (by decide)
  subst ev353
  refine va_sld hx hb hX hbl hbA hS (vp_in_nI (n := 3) (by omega) (by omega)) dL_law_985 ?_
  refine lv_topi (fun a354 ea354 => ?_)
  refine lv_aload_n hx hb dL_law_986 rfl (lv_at hl 1 rfl) ?_
  have hPg := hP.sub (ws' := [(q0, .inr (0, [.int le, .ref qp, .int 0, .null]))]) [0] rfl
  refine va_calli (th_runS (As := [.ref q0, .int a352, .int a354, .ref qo]) (rest := []) ⟨hx, hb, hml, hown, hk⟩ (cL_equal l htr dC dI q0 le qp sa _ a352 a354 qo) (th_cs 4 hk (gS k229 k230 k156 k231) rfl rfl rfl (by decide +kernel) ⟨Nat.le_of_ble_eq_true rfl, Nat.le_of_ble_eq_true rfl⟩) ⟨gUs, fun U hU hW => ⟨rfl, by rw [hU], gUat hPg hK0 hth hstr hS U hU hW⟩⟩ rfl rfl hl.1 rfl (lv_room (Nat.le_of_ble_eq_true rfl)) dL_law_987 ⟨Nat.le_of_ble_eq_true rfl, Nat.le_of_ble_eq_true rfl⟩) hS (fun q h1 h2 => absurd h1 (Nat.not_lt.mpr h2)) (fun q h => Nat.le_trans hS.1 h) (fun r355 u t H1 locs ht hvm hw hB hz1 hk1 hS => ?_)
  subst hw
  have hP : va_P (dC, dI) cls9 [(q0, .inr (0, [.int le, .ref qp, .int 0, .null])), (qp, .inl (cA, 60, .inr (.inr (.inr (.inr (fun _ => none)))))), (q1, .inr (2, .int 0 :: .int lm :: .int 0 :: .ref qn :: fs)), (qn, .inl (cN, 290816, .inl f)), (qo, .inl (cO, 1, .inr (.inl fo)))] H1 := hP.kept (fun j x hx => hk1 x.1 ((hP j x hx).lt) (Nat.not_le.mpr ((hP j x hx).lt)))
  generalize H1 = H at hP hS ⊢
  refine lv_istore (lv' := [(5, .int 1), (4, .int 1), (3, .ref qo), (2, .ref q1), (1, .ref q0), (0, .ref b)]) hx hb dL_law_990 hl (by decide) rfl (fun ls hl => ?_)
  refine lv_aload_n hx hb dL_law_992 rfl (lv_at hl 3 rfl) ?_
  refine lv_aload_n hx hb dL_law_993 rfl (lv_at hl 5 rfl) ?_
  refine lv_iload hx hb dL_law_994 (lv_at hl 1 rfl) ?_
  refine lv_iconst (v := 1) hx hb dL_law_996 (by decide) ?_
  refine lv_iadd hx hb dL_law_997 ?_
  refine lv_topi (fun v356 ev356 => ?_)
  have ev356 : v356 = nI 2 := ev356.trans (by decide)
  subst ev356
  refine va_sld hx hb hX hbl hbA hS (vp_in_nI (n := 2) (by omega) (by omega)) dL_law_998 ?_
  refine lv_topi (fun a357 ea357 => ?_)
  refine lv_aload_n hx hb dL_law_999 rfl (lv_at hl 5 rfl) ?_
  refine lv_iload hx hb dL_law_1000 (lv_at hl 1 rfl) ?_
  refine lv_iconst (v := 2) hx hb dL_law_1002 (by decide) ?_
  refine lv_iadd hx hb dL_law_1003 ?_
  refine lv_topi (fun v358 ev358 => ?_)
  have ev358 : v358 = nI 3 := ev358.trans (by decide)
  subst ev358
  refine va_sld hx hb hX hbl hbA hS (vp_in_nI (n := 3) (by omega) (by omega)) dL_law_1004 ?_
  refine lv_topi (fun a359 ea359 => ?_)
  have hPm := hP.sub (ws' := mW q1 0 lm 0 (.ref qn :: fs)) [2] rfl
  have hq1 : s.heap.size ≤ q1 := hD.2 2 _ rfl
  refine va_calli (va_runV (As := [.int a357, .int a359]) (rest := []) ⟨hx, hb, hml, hown, hk⟩ (cM_equal l dC dI q1 0 lm (.ref qn :: fs) a357 a359) (cwV 2 hk (gV k232 k233 k234 k71 k235) rfl rfl rfl (by decide +kernel) ⟨Nat.le_of_ble_eq_true rfl, Nat.le_of_ble_eq_true rfl⟩) ⟨mB, va_recv hK0 hPm (ci := 2) (q0 := 0) rfl rfl, mP hPm hK0⟩ rfl rfl hl.1 rfl (lv_room (Nat.le_of_ble_eq_true rfl)) dL_law_1005 ⟨Nat.le_of_ble_eq_true rfl, Nat.le_of_ble_eq_true rfl⟩) hS (fun q _ h => by rw [h]; exact hq1) (fun q h => by rw [h]; exact hq1) (fun r360 u t H1 locs ht hvm hw hB hz1 hk1 hS => ?_)
  subst hw
  obtain ⟨hPm, hKm⟩ := hB
  rw [ht] at hPm
  generalize H1 = H at hPm hS ⊢
  refine lv_istore (lv' := [(6, .int 0), (5, .int 1), (4, .int 1), (3, .ref qo), (2, .ref q1), (1, .ref q0), (0, .ref b)]) hx hb dL_law_1008 hl (by decide) rfl (fun ls hl => ?_)
  refine lv_aload_n hx hb dL_law_1010 rfl (lv_at hl 4 rfl) ?_
  refine vp_callSi (W.runV (As := []) (rest := []) ⟨hx, hb, hml, hown, hk⟩ (cM_thrown9 l dC dI q1 1 lm 0 (.ref qn :: fs) _) (cwV 0 hk (gV k162 k163 k164 k71 k165) rfl rfl rfl (by decide +kernel) ⟨Nat.le_of_ble_eq_true rfl, Nat.le_of_ble_eq_true rfl⟩) ⟨nBl, va_recv hK0 hPm (ci := 2) (q0 := 0) rfl rfl, nPr hPm hK0 (mD (h0 := q1))⟩ rfl rfl hl.1 rfl (lv_room (Nat.le_of_ble_eq_true rfl)) dL_law_1011 ⟨Nat.le_of_ble_eq_true rfl, Nat.le_of_ble_eq_true rfl⟩) (fun r361 hw => ?_)
  subst hw
  refine lv_iload hx hb dL_law_1014 (lv_at hl 1 rfl) ?_
  refine lv_icmp_eq (tgt := 1021) hx hb dL_law_1016 (by decide) (fun c362 => ?_) (fun c362 => ?_)
  · skip
    refine lv_iload hx hb dL_law_1021 (lv_at hl 1 rfl) ?_
    refine lv_if_ne (tgt := 1045) hx hb dL_law_1023 (by decide) (fun c363 => ?_) (fun c363 => ?_)
    · skip
      refine lv_goto (tgt := 1265) hx hb dL_law_1045 (by decide) ?_
      refine W.widen (k := 25) (n := 344740) (Nat.le_of_ble_eq_true rfl) (Nat.le_of_ble_eq_true rfl) ?_
      exact kk _ _ ls hS (lv_sub hl [2, 6] rfl)
    · skip
      exact absurd c363 (by decide)
  · skip
    exact absurd c362 (by decide)
set_option maxHeartbeats 4000000 in
set_option maxRecDepth 100000 in
theorem la_12 {p : Program} {l : Launch} {e : Env} {s : State} {m : MethodId} {below : List Frame} {meth : Method} {c : Code} {b L : Nat} {xs : Nat → Int32} {Q : State → Prop} {dC : Nat → ClassId} {dI : Nat → Nat → Nat} {q0 qp q1 qn qo sa : Nat} {le lm : Int32} {cA cN cO : ClassId} {fo : Nat → Int64} {f : Nat → Int32} {fs : List Value} {H : Heap} {locs : List Loc} {ls : Array Slot}
    (htr : l.stackTraces = false) (hL8 : L = 8) (hx : p.tables.exec = Jvm.exec) (hb : c.code = bL_law) (hml : c.maxLocals = 7) (hown : s.vm.findClass "ImageGcdsLaw" = some m.cls) (hX : va_X b L xs s s.heap) (hbl : b < s.heap.size) (hk : ∀ w ∈ W0, w.before #[Value.ref b] s = true) (hK : va_K (dC, dI) cls9 [(cA, .object "ImageGcds$Poly"), (cN, .int), (cO, .long)] s) (hth : th_S s) (hstr : vk_R "ImageGcds" 139 "no such polynomial" sa s)
    (hP : va_P (dC, dI) cls9 [(q0, .inr (0, [.int le, .ref qp, .int 0, .null])), (qp, .inl (cA, 60, .inr (.inr (.inr (.inr (fun _ => none)))))), (q1, .inr (2, .int 0 :: .int lm :: .int 0 :: .ref qn :: fs)), (qn, .inl (cN, 290816, .inl f)), (qo, .inl (cO, 1, .inr (.inl fo)))] H) (hD : va_D (fun q : Nat => s.heap.size ≤ q) [(q0, .inr (0, [.int le, .ref qp, .int 0, .null])), (qp, .inl (cA, 60, .inr (.inr (.inr (.inr (fun _ => none)))))), (q1, .inr (2, .int 0 :: .int lm :: .int 0 :: .ref qn :: fs)), (qn, .inl (cN, 290816, .inl f)), (qo, .inl (cO, 1, .inr (.inl fo)))]) (hS : va_S (fun q : Nat => s.heap.size ≤ q) s.heap H locs) (hl : lv_has ls 7 [(4, .int 1), (3, .ref qo), (2, .ref q1), (1, .ref q0), (0, .ref b)])
    (kk : ∀ (H : Heap) (locs : List Loc) (ls : Array Slot), va_S (fun q : Nat => s.heap.size ≤ q) s.heap H locs → lv_has ls 7 [(4, .int 1), (0, .ref b)] → W p l e room_1 s m #[Value.ref b] below meth c H locs 25 344740 Q (F0 m 1265 ls [])) : W p l e room_1 s m #[Value.ref b] below meth c H locs 22 344734 Q (F0 m 1048 ls []) := by
  have hA : ∀ q : Nat, s.heap.size ≤ q → (fun q : Nat => s.heap.size ≤ q) q := fun _ h => h
  have hbA : ¬ (fun q : Nat => s.heap.size ≤ q) b := Nat.not_le.mpr hbl
  have hK0 : va_K (dC, dI) cls9 [] s := hK.sub (tys' := []) [] rfl
  refine lv_aload_n hx hb dL_law_1048 rfl (lv_at hl 3 rfl) ?_
  refine lv_aload_n hx hb dL_law_1049 rfl (lv_at hl 4 rfl) ?_
  refine lv_iload hx hb dL_law_1050 (lv_at hl 0 rfl) ?_
  refine lv_iconst (v := 1) hx hb dL_law_1052 (by decide) ?_
  refine lv_iadd hx hb dL_law_1053 ?_
  refine lv_topi (fun v364 ev364 => ?_)
  have ev364 : v364 = nI 2 := ev364.trans (by decide)
  subst ev364
  refine va_sld hx hb hX hbl hbA hS (vp_in_nI (n := 2) (by omega) (by omega)) dL_law_1054 ?_
  refine lv_topi (fun a365 ea365 => ?_)
  refine lv_aload_n hx hb dL_law_1055 rfl (lv_at hl 1 rfl) ?_
  have hPg := hP.sub (ws' := [(q0, .inr (0, [.int le, .ref qp, .int 0, .null]))]) [0] rfl
  refine va_calli (th_runS (As := [.ref q0, .int a365, .ref qo]) (rest := []) ⟨hx, hb, hml, hown, hk⟩ (cL_terms l htr dC dI q0 le qp sa _ a365 qo) (th_cs 3 hk (gS k236 k237 k156 k238) rfl rfl rfl (by decide +kernel) ⟨Nat.le_of_ble_eq_true rfl, Nat.le_of_ble_eq_true rfl⟩) ⟨gUs, fun U hU hW => ⟨rfl, by rw [hU], gUat hPg hK0 hth hstr hS U hU hW⟩⟩ rfl rfl hl.1 rfl (lv_room (Nat.le_of_ble_eq_true rfl)) dL_law_1056 ⟨Nat.le_of_ble_eq_true rfl, Nat.le_of_ble_eq_true rfl⟩) hS (fun q h1 h2 => absurd h1 (Nat.not_lt.mpr h2)) (fun q h => Nat.le_trans hS.1 h) (fun r366 u t H1 locs ht hvm hw hB hz1 hk1 hS => ?_)
  subst hw
  have hP : va_P (dC, dI) cls9 [(q0, .inr (0, [.int le, .ref qp, .int 0, .null])), (qp, .inl (cA, 60, .inr (.inr (.inr (.inr (fun _ => none)))))), (q1, .inr (2, .int 0 :: .int lm :: .int 0 :: .ref qn :: fs)), (qn, .inl (cN, 290816, .inl f)), (qo, .inl (cO, 1, .inr (.inl fo)))] H1 := hP.kept (fun j x hx => hk1 x.1 ((hP j x hx).lt) (Nat.not_le.mpr ((hP j x hx).lt)))
  generalize H1 = H at hP hS ⊢
  refine lv_istore (lv' := [(5, .int 1), (4, .int 1), (3, .ref qo), (2, .ref q1), (1, .ref q0), (0, .ref b)]) hx hb dL_law_1059 hl (by decide) rfl (fun ls hl => ?_)
  refine lv_aload_n hx hb dL_law_1061 rfl (lv_at hl 3 rfl) ?_
  refine lv_aload_n hx hb dL_law_1062 rfl (lv_at hl 5 rfl) ?_
  refine lv_iload hx hb dL_law_1063 (lv_at hl 1 rfl) ?_
  refine lv_iconst (v := 1) hx hb dL_law_1065 (by decide) ?_
  refine lv_iadd hx hb dL_law_1066 ?_
  refine lv_topi (fun v367 ev367 => ?_)
  have ev367 : v367 = nI 2 := ev367.trans (by decide)
  subst ev367
  refine va_sld hx hb hX hbl hbA hS (vp_in_nI (n := 2) (by omega) (by omega)) dL_law_1067 ?_
  refine lv_topi (fun a368 ea368 => ?_)
  have hPm := hP.sub (ws' := mW q1 0 lm 0 (.ref qn :: fs)) [2] rfl
  have hq1 : s.heap.size ≤ q1 := hD.2 2 _ rfl
  refine va_calli (va_runV (As := [.int a368]) (rest := []) ⟨hx, hb, hml, hown, hk⟩ (cM_terms l dC dI q1 0 lm (.ref qn :: fs) a368) (cwV 1 hk (gV k239 k240 k241 k71 k242) rfl rfl rfl (by decide +kernel) ⟨Nat.le_of_ble_eq_true rfl, Nat.le_of_ble_eq_true rfl⟩) ⟨mB, va_recv hK0 hPm (ci := 2) (q0 := 0) rfl rfl, mP hPm hK0⟩ rfl rfl hl.1 rfl (lv_room (Nat.le_of_ble_eq_true rfl)) dL_law_1068 ⟨Nat.le_of_ble_eq_true rfl, Nat.le_of_ble_eq_true rfl⟩) hS (fun q _ h => by rw [h]; exact hq1) (fun q h => by rw [h]; exact hq1) (fun r369 u t H1 locs ht hvm hw hB hz1 hk1 hS => ?_)
  subst hw
  obtain ⟨hPm, hKm⟩ := hB
  rw [ht] at hPm
  generalize H1 = H at hPm hS ⊢
  refine lv_istore (lv' := [(6, .int 0), (5, .int 1), (4, .int 1), (3, .ref qo), (2, .ref q1), (1, .ref q0), (0, .ref b)]) hx hb dL_law_1071 hl (by decide) rfl (fun ls hl => ?_)
  refine lv_aload_n hx hb dL_law_1073 rfl (lv_at hl 4 rfl) ?_
  refine vp_callSi (W.runV (As := []) (rest := []) ⟨hx, hb, hml, hown, hk⟩ (cM_thrown9 l dC dI q1 1 lm 0 (.ref qn :: fs) _) (cwV 0 hk (gV k162 k163 k164 k71 k165) rfl rfl rfl (by decide +kernel) ⟨Nat.le_of_ble_eq_true rfl, Nat.le_of_ble_eq_true rfl⟩) ⟨nBl, va_recv hK0 hPm (ci := 2) (q0 := 0) rfl rfl, nPr hPm hK0 (mD (h0 := q1))⟩ rfl rfl hl.1 rfl (lv_room (Nat.le_of_ble_eq_true rfl)) dL_law_1074 ⟨Nat.le_of_ble_eq_true rfl, Nat.le_of_ble_eq_true rfl⟩) (fun r370 hw => ?_)
  subst hw
  refine lv_iload hx hb dL_law_1077 (lv_at hl 1 rfl) ?_
  refine lv_icmp_eq (tgt := 1084) hx hb dL_law_1079 (by decide) (fun c371 => ?_) (fun c371 => ?_)
  · skip
    refine lv_iload hx hb dL_law_1084 (lv_at hl 1 rfl) ?_
    refine lv_if_ne (tgt := 1101) hx hb dL_law_1086 (by decide) (fun c372 => ?_) (fun c372 => ?_)
    · skip
      refine lv_goto (tgt := 1265) hx hb dL_law_1101 (by decide) ?_
      refine W.widen (k := 25) (n := 344740) (Nat.le_of_ble_eq_true rfl) (Nat.le_of_ble_eq_true rfl) ?_
      exact kk _ _ ls hS (lv_sub hl [2, 6] rfl)
    · skip
      exact absurd c372 (by decide)
  · skip
    exact absurd c371 (by decide)
set_option maxHeartbeats 4000000 in
set_option maxRecDepth 100000 in
theorem la_13 {p : Program} {l : Launch} {e : Env} {s : State} {m : MethodId} {below : List Frame} {meth : Method} {c : Code} {b L : Nat} {xs : Nat → Int32} {Q : State → Prop} {dC : Nat → ClassId} {dI : Nat → Nat → Nat} {q0 qp q1 qn qo sa : Nat} {le lm : Int32} {cA cN cO : ClassId} {fo : Nat → Int64} {f : Nat → Int32} {fs : List Value} {H : Heap} {locs : List Loc} {ls : Array Slot}
    (htr : l.stackTraces = false) (hL8 : L = 8) (hx : p.tables.exec = Jvm.exec) (hb : c.code = bL_law) (hml : c.maxLocals = 7) (hown : s.vm.findClass "ImageGcdsLaw" = some m.cls) (hX : va_X b L xs s s.heap) (hbl : b < s.heap.size) (hk : ∀ w ∈ W0, w.before #[Value.ref b] s = true) (hK : va_K (dC, dI) cls9 [(cA, .object "ImageGcds$Poly"), (cN, .int), (cO, .long)] s) (hth : th_S s) (hstr : vk_R "ImageGcds" 139 "no such polynomial" sa s)
    (hP : va_P (dC, dI) cls9 [(q0, .inr (0, [.int le, .ref qp, .int 0, .null])), (qp, .inl (cA, 60, .inr (.inr (.inr (.inr (fun _ => none)))))), (q1, .inr (2, .int 0 :: .int lm :: .int 0 :: .ref qn :: fs)), (qn, .inl (cN, 290816, .inl f)), (qo, .inl (cO, 1, .inr (.inl fo)))] H) (hD : va_D (fun q : Nat => s.heap.size ≤ q) [(q0, .inr (0, [.int le, .ref qp, .int 0, .null])), (qp, .inl (cA, 60, .inr (.inr (.inr (.inr (fun _ => none)))))), (q1, .inr (2, .int 0 :: .int lm :: .int 0 :: .ref qn :: fs)), (qn, .inl (cN, 290816, .inl f)), (qo, .inl (cO, 1, .inr (.inl fo)))]) (hS : va_S (fun q : Nat => s.heap.size ≤ q) s.heap H locs) (hl : lv_has ls 7 [(4, .int 1), (3, .ref qo), (2, .ref q1), (1, .ref q0), (0, .ref b)])
    (kk : ∀ (H : Heap) (locs : List Loc) (ls : Array Slot), va_S (fun q : Nat => s.heap.size ≤ q) s.heap H locs → lv_has ls 7 [(4, .int 1), (0, .ref b)] → W p l e room_1 s m #[Value.ref b] below meth c H locs 25 344740 Q (F0 m 1265 ls [])) : W p l e room_1 s m #[Value.ref b] below meth c H locs 22 344734 Q (F0 m 1104 ls []) := by
  have hA : ∀ q : Nat, s.heap.size ≤ q → (fun q : Nat => s.heap.size ≤ q) q := fun _ h => h
  have hbA : ¬ (fun q : Nat => s.heap.size ≤ q) b := Nat.not_le.mpr hbl
  have hK0 : va_K (dC, dI) cls9 [] s := hK.sub (tys' := []) [] rfl
  refine lv_aload_n hx hb dL_law_1104 rfl (lv_at hl 3 rfl) ?_
  refine lv_aload_n hx hb dL_law_1105 rfl (lv_at hl 4 rfl) ?_
  refine lv_iload hx hb dL_law_1106 (lv_at hl 0 rfl) ?_
  refine lv_iconst (v := 1) hx hb dL_law_1108 (by decide) ?_
  refine lv_iadd hx hb dL_law_1109 ?_
  refine lv_topi (fun v373 ev373 => ?_)
  have ev373 : v373 = nI 2 := ev373.trans (by decide)
  subst ev373
  refine va_sld hx hb hX hbl hbA hS (vp_in_nI (n := 2) (by omega) (by omega)) dL_law_1110 ?_
  refine lv_topi (fun a374 ea374 => ?_)
  refine lv_aload_n hx hb dL_law_1111 rfl (lv_at hl 4 rfl) ?_
  refine lv_iload hx hb dL_law_1112 (lv_at hl 0 rfl) ?_
  refine lv_iconst (v := 2) hx hb dL_law_1114 (by decide) ?_
  refine lv_iadd hx hb dL_law_1115 ?_
  refine lv_topi (fun v375 ev375 => ?_)
  have ev375 : v375 = nI 3 := ev375.trans (by decide)
  subst ev375
  refine va_sld hx hb hX hbl hbA hS (vp_in_nI (n := 3) (by omega) (by omega)) dL_law_1116 ?_
  refine lv_topi (fun a376 ea376 => ?_)
  refine lv_aload_n hx hb dL_law_1117 rfl (lv_at hl 4 rfl) ?_
  refine lv_iload hx hb dL_law_1118 (lv_at hl 0 rfl) ?_
  refine lv_iconst (v := 3) hx hb dL_law_1120 (by decide) ?_
  refine lv_iadd hx hb dL_law_1121 ?_
  refine lv_topi (fun v377 ev377 => ?_)
  have ev377 : v377 = nI 4 := ev377.trans (by decide)
  subst ev377
  refine va_sld hx hb hX hbl hbA hS (vp_in_nI (n := 4) (by omega) (by omega)) dL_law_1122 ?_
  refine lv_topi (fun a378 ea378 => ?_)
  refine lv_aload_n hx hb dL_law_1123 rfl (lv_at hl 1 rfl) ?_
  have hPg := hP.sub (ws' := [(q0, .inr (0, [.int le, .ref qp, .int 0, .null]))]) [0] rfl
  refine va_calli (th_runS (As := [.ref q0, .int a374, .int a376, .int a378, .ref qo]) (rest := []) ⟨hx, hb, hml, hown, hk⟩ (cL_at l htr dC dI q0 le qp sa _ a374 a376 a378 qo) (th_cs 5 hk (gS k243 k244 k156 k245) rfl rfl rfl (by decide +kernel) ⟨Nat.le_of_ble_eq_true rfl, Nat.le_of_ble_eq_true rfl⟩) ⟨gUs, fun U hU hW => ⟨rfl, by rw [hU], gUat hPg hK0 hth hstr hS U hU hW⟩⟩ rfl rfl hl.1 rfl (lv_room (Nat.le_of_ble_eq_true rfl)) dL_law_1124 ⟨Nat.le_of_ble_eq_true rfl, Nat.le_of_ble_eq_true rfl⟩) hS (fun q h1 h2 => absurd h1 (Nat.not_lt.mpr h2)) (fun q h => Nat.le_trans hS.1 h) (fun r379 u t H1 locs ht hvm hw hB hz1 hk1 hS => ?_)
  subst hw
  have hP : va_P (dC, dI) cls9 [(q0, .inr (0, [.int le, .ref qp, .int 0, .null])), (qp, .inl (cA, 60, .inr (.inr (.inr (.inr (fun _ => none)))))), (q1, .inr (2, .int 0 :: .int lm :: .int 0 :: .ref qn :: fs)), (qn, .inl (cN, 290816, .inl f)), (qo, .inl (cO, 1, .inr (.inl fo)))] H1 := hP.kept (fun j x hx => hk1 x.1 ((hP j x hx).lt) (Nat.not_le.mpr ((hP j x hx).lt)))
  generalize H1 = H at hP hS ⊢
  refine lv_istore (lv' := [(5, .int 1), (4, .int 1), (3, .ref qo), (2, .ref q1), (1, .ref q0), (0, .ref b)]) hx hb dL_law_1127 hl (by decide) rfl (fun ls hl => ?_)
  refine lv_aload_n hx hb dL_law_1129 rfl (lv_at hl 3 rfl) ?_
  refine lv_aload_n hx hb dL_law_1130 rfl (lv_at hl 5 rfl) ?_
  refine lv_iload hx hb dL_law_1131 (lv_at hl 1 rfl) ?_
  refine lv_iconst (v := 1) hx hb dL_law_1133 (by decide) ?_
  refine lv_iadd hx hb dL_law_1134 ?_
  refine lv_topi (fun v380 ev380 => ?_)
  have ev380 : v380 = nI 2 := ev380.trans (by decide)
  subst ev380
  refine va_sld hx hb hX hbl hbA hS (vp_in_nI (n := 2) (by omega) (by omega)) dL_law_1135 ?_
  refine lv_topi (fun a381 ea381 => ?_)
  refine lv_aload_n hx hb dL_law_1136 rfl (lv_at hl 5 rfl) ?_
  refine lv_iload hx hb dL_law_1137 (lv_at hl 1 rfl) ?_
  refine lv_iconst (v := 2) hx hb dL_law_1139 (by decide) ?_
  refine lv_iadd hx hb dL_law_1140 ?_
  refine lv_topi (fun v382 ev382 => ?_)
  have ev382 : v382 = nI 3 := ev382.trans (by decide)
  subst ev382
  refine va_sld hx hb hX hbl hbA hS (vp_in_nI (n := 3) (by omega) (by omega)) dL_law_1141 ?_
  refine lv_topi (fun a383 ea383 => ?_)
  refine lv_aload_n hx hb dL_law_1142 rfl (lv_at hl 5 rfl) ?_
  refine lv_iload hx hb dL_law_1143 (lv_at hl 1 rfl) ?_
  refine lv_iconst (v := 3) hx hb dL_law_1145 (by decide) ?_
  refine lv_iadd hx hb dL_law_1146 ?_
  refine lv_topi (fun v384 ev384 => ?_)
  have ev384 : v384 = nI 4 := ev384.trans (by decide)
  subst ev384
  refine va_sld hx hb hX hbl hbA hS (vp_in_nI (n := 4) (by omega) (by omega)) dL_law_1147 ?_
  refine lv_topi (fun a385 ea385 => ?_)
  have hPm := hP.sub (ws' := mW q1 0 lm 0 (.ref qn :: fs)) [2] rfl
  have hq1 : s.heap.size ≤ q1 := hD.2 2 _ rfl
  refine va_calli (va_runV (As := [.int a381, .int a383, .int a385]) (rest := []) ⟨hx, hb, hml, hown, hk⟩ (cM_at l dC dI q1 0 lm (.ref qn :: fs) a381 a383 a385) (cwV 3 hk (gV k246 k247 k248 k71 k249) rfl rfl rfl (by decide +kernel) ⟨Nat.le_of_ble_eq_true rfl, Nat.le_of_ble_eq_true rfl⟩) ⟨mB, va_recv hK0 hPm (ci := 2) (q0 := 0) rfl rfl, mP hPm hK0⟩ rfl rfl hl.1 rfl (lv_room (Nat.le_of_ble_eq_true rfl)) dL_law_1148 ⟨Nat.le_of_ble_eq_true rfl, Nat.le_of_ble_eq_true rfl⟩) hS (fun q _ h => by rw [h]; exact hq1) (fun q h => by rw [h]; exact hq1) (fun r386 u t H1 locs ht hvm hw hB hz1 hk1 hS => ?_)
  subst hw
  obtain ⟨hPm, hKm⟩ := hB
  rw [ht] at hPm
  generalize H1 = H at hPm hS ⊢
  refine lv_istore (lv' := [(6, .int 0), (5, .int 1), (4, .int 1), (3, .ref qo), (2, .ref q1), (1, .ref q0), (0, .ref b)]) hx hb dL_law_1151 hl (by decide) rfl (fun ls hl => ?_)
  refine lv_aload_n hx hb dL_law_1153 rfl (lv_at hl 4 rfl) ?_
  refine vp_callSi (W.runV (As := []) (rest := []) ⟨hx, hb, hml, hown, hk⟩ (cM_thrown9 l dC dI q1 1 lm 0 (.ref qn :: fs) _) (cwV 0 hk (gV k162 k163 k164 k71 k165) rfl rfl rfl (by decide +kernel) ⟨Nat.le_of_ble_eq_true rfl, Nat.le_of_ble_eq_true rfl⟩) ⟨nBl, va_recv hK0 hPm (ci := 2) (q0 := 0) rfl rfl, nPr hPm hK0 (mD (h0 := q1))⟩ rfl rfl hl.1 rfl (lv_room (Nat.le_of_ble_eq_true rfl)) dL_law_1154 ⟨Nat.le_of_ble_eq_true rfl, Nat.le_of_ble_eq_true rfl⟩) (fun r387 hw => ?_)
  subst hw
  refine lv_iload hx hb dL_law_1157 (lv_at hl 1 rfl) ?_
  refine lv_icmp_eq (tgt := 1164) hx hb dL_law_1159 (by decide) (fun c388 => ?_) (fun c388 => ?_)
  · skip
    refine lv_iload hx hb dL_law_1164 (lv_at hl 1 rfl) ?_
    refine lv_if_ne (tgt := 1181) hx hb dL_law_1166 (by decide) (fun c389 => ?_) (fun c389 => ?_)
    · skip
      refine lv_goto (tgt := 1265) hx hb dL_law_1181 (by decide) ?_
      refine W.widen (k := 25) (n := 344740) (Nat.le_of_ble_eq_true rfl) (Nat.le_of_ble_eq_true rfl) ?_
      exact kk _ _ ls hS (lv_sub hl [2, 6] rfl)
    · skip
      exact absurd c389 (by decide)
  · skip
    exact absurd c388 (by decide)
set_option maxHeartbeats 4000000 in
set_option maxRecDepth 100000 in
theorem la_14 {p : Program} {l : Launch} {e : Env} {s : State} {m : MethodId} {below : List Frame} {meth : Method} {c : Code} {b L : Nat} {xs : Nat → Int32} {Q : State → Prop} {dC : Nat → ClassId} {dI : Nat → Nat → Nat} {q0 qp q1 qn qo sa : Nat} {le lm : Int32} {cA cN cO : ClassId} {fo : Nat → Int64} {f : Nat → Int32} {fs : List Value} {H : Heap} {locs : List Loc} {ls : Array Slot}
    (htr : l.stackTraces = false) (hL8 : L = 8) (hx : p.tables.exec = Jvm.exec) (hb : c.code = bL_law) (hml : c.maxLocals = 7) (hown : s.vm.findClass "ImageGcdsLaw" = some m.cls) (hX : va_X b L xs s s.heap) (hbl : b < s.heap.size) (hk : ∀ w ∈ W0, w.before #[Value.ref b] s = true) (hK : va_K (dC, dI) cls9 [(cA, .object "ImageGcds$Poly"), (cN, .int), (cO, .long)] s) (hth : th_S s) (hstr : vk_R "ImageGcds" 139 "no such polynomial" sa s)
    (hP : va_P (dC, dI) cls9 [(q0, .inr (0, [.int le, .ref qp, .int 0, .null])), (qp, .inl (cA, 60, .inr (.inr (.inr (.inr (fun _ => none)))))), (q1, .inr (2, .int 0 :: .int lm :: .int 0 :: .ref qn :: fs)), (qn, .inl (cN, 290816, .inl f)), (qo, .inl (cO, 1, .inr (.inl fo)))] H) (hD : va_D (fun q : Nat => s.heap.size ≤ q) [(q0, .inr (0, [.int le, .ref qp, .int 0, .null])), (qp, .inl (cA, 60, .inr (.inr (.inr (.inr (fun _ => none)))))), (q1, .inr (2, .int 0 :: .int lm :: .int 0 :: .ref qn :: fs)), (qn, .inl (cN, 290816, .inl f)), (qo, .inl (cO, 1, .inr (.inl fo)))]) (hS : va_S (fun q : Nat => s.heap.size ≤ q) s.heap H locs) (hl : lv_has ls 7 [(4, .int 1), (3, .ref qo), (2, .ref q1), (1, .ref q0), (0, .ref b)])
    (kk : ∀ (H : Heap) (locs : List Loc) (ls : Array Slot), va_S (fun q : Nat => s.heap.size ≤ q) s.heap H locs → lv_has ls 7 [(4, .int 1), (0, .ref b)] → W p l e room_1 s m #[Value.ref b] below meth c H locs 25 344740 Q (F0 m 1265 ls [])) : W p l e room_1 s m #[Value.ref b] below meth c H locs 22 344734 Q (F0 m 1184 ls []) := by
  have hA : ∀ q : Nat, s.heap.size ≤ q → (fun q : Nat => s.heap.size ≤ q) q := fun _ h => h
  have hbA : ¬ (fun q : Nat => s.heap.size ≤ q) b := Nat.not_le.mpr hbl
  have hK0 : va_K (dC, dI) cls9 [] s := hK.sub (tys' := []) [] rfl
  refine lv_aload_n hx hb dL_law_1184 rfl (lv_at hl 3 rfl) ?_
  refine lv_aload_n hx hb dL_law_1185 rfl (lv_at hl 4 rfl) ?_
  refine lv_iload hx hb dL_law_1186 (lv_at hl 0 rfl) ?_
  refine lv_iconst (v := 1) hx hb dL_law_1188 (by decide) ?_
  refine lv_iadd hx hb dL_law_1189 ?_
  refine lv_topi (fun v390 ev390 => ?_)
  have ev390 : v390 = nI 2 := ev390.trans (by decide)
  subst ev390
  refine va_sld hx hb hX hbl hbA hS (vp_in_nI (n := 2) (by omega) (by omega)) dL_law_1190 ?_
  refine lv_topi (fun a391 ea391 => ?_)
  refine lv_aload_n hx hb dL_law_1191 rfl (lv_at hl 4 rfl) ?_
  refine lv_iload hx hb dL_law_1192 (lv_at hl 0 rfl) ?_
  refine lv_iconst (v := 2) hx hb dL_law_1194 (by decide) ?_
  refine lv_iadd hx hb dL_law_1195 ?_
  refine lv_topi (fun v392 ev392 => ?_)
  have ev392 : v392 = nI 3 := ev392.trans (by decide)
  subst ev392
  refine va_sld hx hb hX hbl hbA hS (vp_in_nI (n := 3) (by omega) (by omega)) dL_law_1196 ?_
  refine lv_topi (fun a393 ea393 => ?_)
  refine lv_aload_n hx hb dL_law_1197 rfl (lv_at hl 1 rfl) ?_
  have hPg := hP.sub (ws' := [(q0, .inr (0, [.int le, .ref qp, .int 0, .null]))]) [0] rfl
  refine va_calli (th_runS (As := [.ref q0, .int a391, .int a393, .ref qo]) (rest := []) ⟨hx, hb, hml, hown, hk⟩ (cL_degree l htr dC dI q0 le qp sa _ a391 a393 qo) (th_cs 4 hk (gS k250 k251 k156 k252) rfl rfl rfl (by decide +kernel) ⟨Nat.le_of_ble_eq_true rfl, Nat.le_of_ble_eq_true rfl⟩) ⟨gUs, fun U hU hW => ⟨rfl, by rw [hU], gUat hPg hK0 hth hstr hS U hU hW⟩⟩ rfl rfl hl.1 rfl (lv_room (Nat.le_of_ble_eq_true rfl)) dL_law_1198 ⟨Nat.le_of_ble_eq_true rfl, Nat.le_of_ble_eq_true rfl⟩) hS (fun q h1 h2 => absurd h1 (Nat.not_lt.mpr h2)) (fun q h => Nat.le_trans hS.1 h) (fun r394 u t H1 locs ht hvm hw hB hz1 hk1 hS => ?_)
  subst hw
  have hP : va_P (dC, dI) cls9 [(q0, .inr (0, [.int le, .ref qp, .int 0, .null])), (qp, .inl (cA, 60, .inr (.inr (.inr (.inr (fun _ => none)))))), (q1, .inr (2, .int 0 :: .int lm :: .int 0 :: .ref qn :: fs)), (qn, .inl (cN, 290816, .inl f)), (qo, .inl (cO, 1, .inr (.inl fo)))] H1 := hP.kept (fun j x hx => hk1 x.1 ((hP j x hx).lt) (Nat.not_le.mpr ((hP j x hx).lt)))
  generalize H1 = H at hP hS ⊢
  refine lv_istore (lv' := [(5, .int 1), (4, .int 1), (3, .ref qo), (2, .ref q1), (1, .ref q0), (0, .ref b)]) hx hb dL_law_1201 hl (by decide) rfl (fun ls hl => ?_)
  refine lv_aload_n hx hb dL_law_1203 rfl (lv_at hl 3 rfl) ?_
  refine lv_aload_n hx hb dL_law_1204 rfl (lv_at hl 5 rfl) ?_
  refine lv_iload hx hb dL_law_1205 (lv_at hl 1 rfl) ?_
  refine lv_iconst (v := 1) hx hb dL_law_1207 (by decide) ?_
  refine lv_iadd hx hb dL_law_1208 ?_
  refine lv_topi (fun v395 ev395 => ?_)
  have ev395 : v395 = nI 2 := ev395.trans (by decide)
  subst ev395
  refine va_sld hx hb hX hbl hbA hS (vp_in_nI (n := 2) (by omega) (by omega)) dL_law_1209 ?_
  refine lv_topi (fun a396 ea396 => ?_)
  refine lv_aload_n hx hb dL_law_1210 rfl (lv_at hl 5 rfl) ?_
  refine lv_iload hx hb dL_law_1211 (lv_at hl 1 rfl) ?_
  refine lv_iconst (v := 2) hx hb dL_law_1213 (by decide) ?_
  refine lv_iadd hx hb dL_law_1214 ?_
  refine lv_topi (fun v397 ev397 => ?_)
  have ev397 : v397 = nI 3 := ev397.trans (by decide)
  subst ev397
  refine va_sld hx hb hX hbl hbA hS (vp_in_nI (n := 3) (by omega) (by omega)) dL_law_1215 ?_
  refine lv_topi (fun a398 ea398 => ?_)
  have hPm := hP.sub (ws' := mW q1 0 lm 0 (.ref qn :: fs)) [2] rfl
  have hq1 : s.heap.size ≤ q1 := hD.2 2 _ rfl
  refine va_calli (va_runV (As := [.int a396, .int a398]) (rest := []) ⟨hx, hb, hml, hown, hk⟩ (cM_degree l dC dI q1 0 lm (.ref qn :: fs) a396 a398) (cwV 2 hk (gV k253 k254 k255 k71 k256) rfl rfl rfl (by decide +kernel) ⟨Nat.le_of_ble_eq_true rfl, Nat.le_of_ble_eq_true rfl⟩) ⟨mB, va_recv hK0 hPm (ci := 2) (q0 := 0) rfl rfl, mP hPm hK0⟩ rfl rfl hl.1 rfl (lv_room (Nat.le_of_ble_eq_true rfl)) dL_law_1216 ⟨Nat.le_of_ble_eq_true rfl, Nat.le_of_ble_eq_true rfl⟩) hS (fun q _ h => by rw [h]; exact hq1) (fun q h => by rw [h]; exact hq1) (fun r399 u t H1 locs ht hvm hw hB hz1 hk1 hS => ?_)
  subst hw
  obtain ⟨hPm, hKm⟩ := hB
  rw [ht] at hPm
  generalize H1 = H at hPm hS ⊢
  refine lv_istore (lv' := [(6, .int 0), (5, .int 1), (4, .int 1), (3, .ref qo), (2, .ref q1), (1, .ref q0), (0, .ref b)]) hx hb dL_law_1219 hl (by decide) rfl (fun ls hl => ?_)
  refine lv_aload_n hx hb dL_law_1221 rfl (lv_at hl 4 rfl) ?_
  refine vp_callSi (W.runV (As := []) (rest := []) ⟨hx, hb, hml, hown, hk⟩ (cM_thrown9 l dC dI q1 1 lm 0 (.ref qn :: fs) _) (cwV 0 hk (gV k162 k163 k164 k71 k165) rfl rfl rfl (by decide +kernel) ⟨Nat.le_of_ble_eq_true rfl, Nat.le_of_ble_eq_true rfl⟩) ⟨nBl, va_recv hK0 hPm (ci := 2) (q0 := 0) rfl rfl, nPr hPm hK0 (mD (h0 := q1))⟩ rfl rfl hl.1 rfl (lv_room (Nat.le_of_ble_eq_true rfl)) dL_law_1222 ⟨Nat.le_of_ble_eq_true rfl, Nat.le_of_ble_eq_true rfl⟩) (fun r400 hw => ?_)
  subst hw
  refine lv_iload hx hb dL_law_1225 (lv_at hl 1 rfl) ?_
  refine lv_icmp_eq (tgt := 1232) hx hb dL_law_1227 (by decide) (fun c401 => ?_) (fun c401 => ?_)
  · skip
    refine lv_iload hx hb dL_law_1232 (lv_at hl 1 rfl) ?_
    refine lv_if_ne (tgt := 1249) hx hb dL_law_1234 (by decide) (fun c402 => ?_) (fun c402 => ?_)
    · skip
      refine lv_goto (tgt := 1265) hx hb dL_law_1249 (by decide) ?_
      refine W.widen (k := 25) (n := 344740) (Nat.le_of_ble_eq_true rfl) (Nat.le_of_ble_eq_true rfl) ?_
      exact kk _ _ ls hS (lv_sub hl [2, 6] rfl)
    · skip
      exact absurd c402 (by decide)
  · skip
    exact absurd c401 (by decide)
set_option maxHeartbeats 4000000 in
set_option maxRecDepth 100000 in
theorem la_15 {p : Program} {l : Launch} {e : Env} {s : State} {m : MethodId} {below : List Frame} {meth : Method} {c : Code} {b L : Nat} {xs : Nat → Int32} {Q : State → Prop} {dC : Nat → ClassId} {dI : Nat → Nat → Nat} {q0 qp q1 qn qo sa : Nat} {le lm : Int32} {cA cN cO : ClassId} {fo : Nat → Int64} {f : Nat → Int32} {fs : List Value} {H : Heap} {locs : List Loc} {ls : Array Slot}
    (htr : l.stackTraces = false) (hL8 : L = 8) (hx : p.tables.exec = Jvm.exec) (hb : c.code = bL_law) (hml : c.maxLocals = 7) (hown : s.vm.findClass "ImageGcdsLaw" = some m.cls) (hX : va_X b L xs s s.heap) (hbl : b < s.heap.size) (hk : ∀ w ∈ W0, w.before #[Value.ref b] s = true) (hK : va_K (dC, dI) cls9 [(cA, .object "ImageGcds$Poly"), (cN, .int), (cO, .long)] s) (hth : th_S s) (hstr : vk_R "ImageGcds" 139 "no such polynomial" sa s)
    (hP : va_P (dC, dI) cls9 [(q0, .inr (0, [.int le, .ref qp, .int 0, .null])), (qp, .inl (cA, 60, .inr (.inr (.inr (.inr (fun _ => none)))))), (q1, .inr (2, .int 0 :: .int lm :: .int 0 :: .ref qn :: fs)), (qn, .inl (cN, 290816, .inl f)), (qo, .inl (cO, 1, .inr (.inl fo)))] H) (hD : va_D (fun q : Nat => s.heap.size ≤ q) [(q0, .inr (0, [.int le, .ref qp, .int 0, .null])), (qp, .inl (cA, 60, .inr (.inr (.inr (.inr (fun _ => none)))))), (q1, .inr (2, .int 0 :: .int lm :: .int 0 :: .ref qn :: fs)), (qn, .inl (cN, 290816, .inl f)), (qo, .inl (cO, 1, .inr (.inl fo)))]) (hS : va_S (fun q : Nat => s.heap.size ≤ q) s.heap H locs) (hl : lv_has ls 7 [(4, .int 1), (3, .ref qo), (2, .ref q1), (1, .ref q0), (0, .ref b)])
    (kk : ∀ (H : Heap) (locs : List Loc) (ls : Array Slot), va_S (fun q : Nat => s.heap.size ≤ q) s.heap H locs → lv_has ls 7 [(4, .int 1), (0, .ref b)] → W p l e room_1 s m #[Value.ref b] below meth c H locs 25 344740 Q (F0 m 1265 ls [])) : W p l e room_1 s m #[Value.ref b] below meth c H locs 22 344734 Q (F0 m 1252 ls []) := by
  have hA : ∀ q : Nat, s.heap.size ≤ q → (fun q : Nat => s.heap.size ≤ q) q := fun _ h => h
  have hbA : ¬ (fun q : Nat => s.heap.size ≤ q) b := Nat.not_le.mpr hbl
  have hK0 : va_K (dC, dI) cls9 [] s := hK.sub (tys' := []) [] rfl
  have hPg := hP.sub (ws' := [(q0, .inr (0, [.int le, .ref qp, .int 0, .null]))]) [0] rfl
  refine lv_aload_n hx hb dL_law_1252 rfl (lv_at hl 3 rfl) ?_
  refine vp_callSi (W.runV (As := []) (rest := []) ⟨hx, hb, hml, hown, hk⟩ (cG_count l dC dI q0 le qp sa) (cwV 0 hk (gV k257 k258 k259 k6 k260) rfl rfl rfl (by decide +kernel) ⟨Nat.le_of_ble_eq_true rfl, Nat.le_of_ble_eq_true rfl⟩) ⟨gU.bl, va_recv hK0 hPg (ci := 0) (q0 := 0) rfl rfl, fun U hU hW => ⟨rfl, gUat hPg hK0 hth hstr hS U hU hW⟩⟩ rfl rfl hl.1 rfl (lv_room (Nat.le_of_ble_eq_true rfl)) dL_law_1253 ⟨Nat.le_of_ble_eq_true rfl, Nat.le_of_ble_eq_true rfl⟩) (fun r1 hw => ?_)
  subst hw
  refine lv_aload_n hx hb dL_law_1256 rfl (lv_at hl 2 rfl) ?_
  have hPm := hP.sub (ws' := mW q1 0 lm 0 (.ref qn :: fs)) [2] rfl
  have hq1 : s.heap.size ≤ q1 := hD.2 2 _ rfl
  refine va_calli (va_runV (As := []) (rest := [.int 0]) ⟨hx, hb, hml, hown, hk⟩ (cM_count l dC dI q1 0 lm (.ref qn :: fs)) (cwV 0 hk (gV k261 k262 k263 k71 k264) rfl rfl rfl (by decide +kernel) ⟨Nat.le_of_ble_eq_true rfl, Nat.le_of_ble_eq_true rfl⟩) ⟨mB, va_recv hK0 hPm (ci := 2) (q0 := 0) rfl rfl, mP hPm hK0⟩ rfl rfl hl.1 rfl (lv_room (Nat.le_of_ble_eq_true rfl)) dL_law_1257 ⟨Nat.le_of_ble_eq_true rfl, Nat.le_of_ble_eq_true rfl⟩) hS (fun q _ h => by rw [h]; exact hq1) (fun q h => by rw [h]; exact hq1) (fun r2 u t H1 locs ht hvm hw hB hz1 hk1 hS => ?_)
  subst hw
  refine lv_icmp_eq (tgt := 1265) hx hb dL_law_1260 (by decide) (fun c1 => ?_) (fun c1 => absurd rfl c1)
  refine W.widen (k := 25) (n := 344740) (Nat.le_of_ble_eq_true rfl) (Nat.le_of_ble_eq_true rfl) ?_
  exact kk _ _ ls hS (lv_sub hl [0, 4] rfl)
set_option maxHeartbeats 4000000 in
set_option maxRecDepth 100000 in
theorem la_0 {p : Program} {l : Launch} {e : Env} {s : State} {m : MethodId} {below : List Frame} {meth : Method} {c : Code} {b L : Nat} {xs : Nat → Int32} {Q : State → Prop} {dC : Nat → ClassId} {dI : Nat → Nat → Nat} {q0 qp q1 qn qo sa : Nat} {le lm : Int32} {cA cN cO : ClassId} {fo : Nat → Int64} {f : Nat → Int32} {fs : List Value} {H : Heap} {locs : List Loc} {ls : Array Slot}
    (htr : l.stackTraces = false) (hL8 : L = 8) (hx : p.tables.exec = Jvm.exec) (hb : c.code = bL_law) (hml : c.maxLocals = 7) (hown : s.vm.findClass "ImageGcdsLaw" = some m.cls) (hX : va_X b L xs s s.heap) (hbl : b < s.heap.size) (hk : ∀ w ∈ W0, w.before #[Value.ref b] s = true) (hK : va_K (dC, dI) cls9 [(cA, .object "ImageGcds$Poly"), (cN, .int), (cO, .long)] s) (hth : th_S s) (hstr : vk_R "ImageGcds" 139 "no such polynomial" sa s)
    (hP : va_P (dC, dI) cls9 [(q0, .inr (0, [.int le, .ref qp, .int 0, .null])), (qp, .inl (cA, 60, .inr (.inr (.inr (.inr (fun _ => none)))))), (q1, .inr (2, .int 0 :: .int lm :: .int 0 :: .ref qn :: fs)), (qn, .inl (cN, 290816, .inl f)), (qo, .inl (cO, 1, .inr (.inl fo)))] H) (hD : va_D (fun q : Nat => s.heap.size ≤ q) [(q0, .inr (0, [.int le, .ref qp, .int 0, .null])), (qp, .inl (cA, 60, .inr (.inr (.inr (.inr (fun _ => none)))))), (q1, .inr (2, .int 0 :: .int lm :: .int 0 :: .ref qn :: fs)), (qn, .inl (cN, 290816, .inl f)), (qo, .inl (cO, 1, .inr (.inl fo)))]) (hS : va_S (fun q : Nat => s.heap.size ≤ q) s.heap H locs) (hl : lv_has ls 7 [(4, .int 1), (3, .ref qo), (2, .ref q1), (1, .ref q0), (0, .ref b)])
    (kk : ∀ (H : Heap) (locs : List Loc) (ls : Array Slot), va_S (fun q : Nat => s.heap.size ≤ q) s.heap H locs → lv_has ls 7 [(4, .int 1), (0, .ref b)] → W p l e room_1 s m #[Value.ref b] below meth c H locs 25 344740 Q (F0 m 1265 ls [])) : W p l e room_1 s m #[Value.ref b] below meth c H locs 22 344734 Q (F0 m 128 ls []) := by
  have hA : ∀ q : Nat, s.heap.size ≤ q → (fun q : Nat => s.heap.size ≤ q) q := fun _ h => h
  have hbA : ¬ (fun q : Nat => s.heap.size ≤ q) b := Nat.not_le.mpr hbl
  have hK0 : va_K (dC, dI) cls9 [] s := hK.sub (tys' := []) [] rfl
  refine lv_aload_n hx hb dL_law_128 rfl (lv_at hl 3 rfl) ?_
  refine lv_aload_n hx hb dL_law_129 rfl (lv_at hl 1 rfl) ?_
  have hP9 := hP.sub (ws' := [(q0, .inr (0, [.int le, .ref qp, .int 0, .null])), (qp, .inl (cA, 60, .inr (.inr (.inr (.inr (fun _ => none)))))), (qo, .inl (cO, 1, .inr (.inl fo)))]) [0, 1, 4] rfl
  have hD9 := hD.sub (ws' := [(q0, .inr (0, [.int le, .ref qp, .int 0, .null])), (qp, .inl (cA, 60, .inr (.inr (.inr (.inr (fun _ => none)))))), (qo, .inl (cO, 1, .inr (.inl fo)))]) [0, 1, 4] (by decide) rfl
  have hK9 := hK.sub (tys' := [(cA, .object "ImageGcds$Poly"), (cO, .long)]) [0, 2] rfl
  have hFc := va_free (wc := [(q0, .inr (0, [.int le, .ref qp, .int 0, .null])), (qp, .inl (cA, 60, .inr (.inr (.inr (.inr (fun _ => none)))))), (qo, .inl (cO, 1, .inr (.inl fo)))]) hD hS hA [0, 1, 4] rfl
  refine va_calli (th_runS (As := [.ref q0, .ref qo]) (rest := []) ⟨hx, hb, hml, hown, hk⟩ (cL_poly l dC dI q0 le qp cA qo cO fo _) (th_cs 2 hk (gS k265 k266 k156 k267) rfl rfl rfl (by decide +kernel) ⟨Nat.le_of_ble_eq_true rfl, Nat.le_of_ble_eq_true rfl⟩) ⟨nBl, nPr hP9 hK9 hD9⟩ rfl rfl hl.1 rfl (lv_room (Nat.le_of_ble_eq_true rfl)) dL_law_130 ⟨Nat.le_of_ble_eq_true rfl, Nat.le_of_ble_eq_true rfl⟩) hS (fun q _ h => hFc q h) hFc (fun r1 u t H1 locs ht hvm hw hB hz1 hk1 hS => ?_)
  subst hw
  obtain ⟨g, hg0, hP1, hD1⟩ := hB
  rw [ht] at hP1
  obtain ⟨hP, hD⟩ := va_join (wr := mN q1 0 lm 0 qn fs cN f) (w1 := [(qo, .inl (cO, 1, .inr (.inl g)))]) hP hD [0, 1, 4] [2, 3] rfl rfl (by decide) (by decide) hk1 hFc hP1 hD1
  generalize H1 = H at hP hS ⊢
  have hP : va_P (dC, dI) cls9 [(q1, .inr (2, .int 0 :: .int lm :: .int 0 :: .ref qn :: fs)), (qn, .inl (cN, 290816, .inl f)), (qo, .inl (cO, 1, .inr (.inl g)))] H := hP
  have hD : va_D (fun q : Nat => s.heap.size ≤ q) [(q1, .inr (2, .int 0 :: .int lm :: .int 0 :: .ref qn :: fs)), (qn, .inl (cN, 290816, .inl f)), (qo, .inl (cO, 1, .inr (.inl g)))] := hD
  refine lv_istore (lv' := [(5, .int 0), (4, .int 1), (3, .ref qo), (2, .ref q1), (1, .ref q0), (0, .ref b)]) hx hb dL_law_133 hl (by decide) rfl (fun ls hl => ?_)
  refine lv_aload_n hx hb dL_law_135 rfl (lv_at hl 3 rfl) ?_
  have hPm := hP.sub (ws' := mN q1 0 lm 0 qn fs cN f) [0, 1] rfl
  have hDm := hD.sub (ws' := mN q1 0 lm 0 qn fs cN f) [0, 1] (by decide) rfl
  have hKm := hK.sub (tys' := [(cN, .int)]) [1] rfl
  have hFc := va_free (wc := mN q1 0 lm 0 qn fs cN f) hD hS hA [0, 1] rfl
  refine va_calli (va_runV (As := []) (rest := []) ⟨hx, hb, hml, hown, hk⟩ (cM_poly l dC dI q1 0 lm qn fs cN f _) (cwV 0 hk (gV k268 k269 k270 k71 k271) rfl rfl rfl (by decide +kernel) ⟨Nat.le_of_ble_eq_true rfl, Nat.le_of_ble_eq_true rfl⟩) ⟨nBl, va_recv hKm hPm (ci := 2) (q0 := 0) rfl rfl, nPr hPm hKm hDm⟩ rfl rfl hl.1 rfl (lv_room (Nat.le_of_ble_eq_true rfl)) dL_law_136 ⟨Nat.le_of_ble_eq_true rfl, Nat.le_of_ble_eq_true rfl⟩) hS (fun q _ h => hFc q h) hFc (fun r2 u t H1 locs ht hvm hw hB hz1 hk1 hS => ?_)
  subst hw
  obtain ⟨f3, hP1, hK1, hD1⟩ := hB
  rw [ht] at hP1
  obtain ⟨hP, hD⟩ := va_join (wr := [(qo, .inl (cO, 1, .inr (.inl g)))]) (w1 := mN q1 0 lm 1 qn fs cN f3) hP hD [0, 1] [2] rfl rfl (by decide) (by decide) hk1 hFc hP1 hD1
  generalize H1 = H at hP hS ⊢
  have hP : va_P (dC, dI) cls9 [(qo, .inl (cO, 1, .inr (.inl g))), (q1, .inr (2, .int 0 :: .int lm :: .int 1 :: .ref qn :: fs)), (qn, .inl (cN, 290816, .inl f3))] H := hP
  have hD : va_D (fun q : Nat => s.heap.size ≤ q) [(qo, .inl (cO, 1, .inr (.inl g))), (q1, .inr (2, .int 0 :: .int lm :: .int 1 :: .ref qn :: fs)), (qn, .inl (cN, 290816, .inl f3))] := hD
  refine lv_istore (lv' := [(6, .int 0), (5, .int 0), (4, .int 1), (3, .ref qo), (2, .ref q1), (1, .ref q0), (0, .ref b)]) hx hb dL_law_139 hl (by decide) rfl (fun ls hl => ?_)
  refine lv_aload_n hx hb dL_law_141 rfl (lv_at hl 4 rfl) ?_
  have hPm := hP.sub (ws' := mW q1 0 lm 1 (.ref qn :: fs)) [1] rfl
  refine vp_callSi (W.runV (As := []) (rest := []) ⟨hx, hb, hml, hown, hk⟩ (cM_thrown9 l dC dI q1 0 lm 1 (.ref qn :: fs) _) (cwV 0 hk (gV k162 k163 k164 k71 k165) rfl rfl rfl (by decide +kernel) ⟨Nat.le_of_ble_eq_true rfl, Nat.le_of_ble_eq_true rfl⟩) ⟨nBl, va_recv hK0 hPm (ci := 2) (q0 := 0) rfl rfl, nPr hPm hK0 (mD (h0 := q1))⟩ rfl rfl hl.1 rfl (lv_room (Nat.le_of_ble_eq_true rfl)) dL_law_142 ⟨Nat.le_of_ble_eq_true rfl, Nat.le_of_ble_eq_true rfl⟩) (fun r3 hw => ?_)
  subst hw
  refine lv_iload hx hb dL_law_145 (lv_at hl 1 rfl) ?_
  refine lv_icmp_eq (tgt := 152) hx hb dL_law_147 (by decide) (fun c1 => ?_) (fun c1 => absurd rfl c1)
  refine lv_iload hx hb dL_law_152 (lv_at hl 1 rfl) ?_
  refine lv_if_ne (tgt := 169) hx hb dL_law_154 (by decide) (fun c2 => absurd rfl c2) (fun c2 => ?_)
  refine lv_aload_n hx hb dL_law_157 rfl (lv_at hl 3 rfl) ?_
  refine lv_iconst (v := 0) hx hb dL_law_158 (by decide) ?_
  have hin : vp_in 0 1 := by rw [← nI_0]; exact vp_in_nI (by decide) (by decide)
  refine va_lald hx hb hK hP 0 2 rfl rfl hin dL_law_159 ?_
  refine lv_topl (fun z ez => ?_)
  have ez : z = 0 := ez.trans hg0
  subst ez
  refine lv_iload hx hb dL_law_160 (lv_at hl 0 rfl) ?_
  refine lv_i2l (v := 0) hx hb dL_law_162 (by decide) ?_
  refine W.lcmp hx hb dL_law_163 ?_
  refine lv_if_eq (tgt := 169) hx hb dL_law_164 (by decide) (fun c3 => ?_) (fun c3 => absurd (by decide) c3)
  refine lv_goto (tgt := 1265) hx hb dL_law_169 (by decide) ?_
  refine W.widen (k := 25) (n := 344740) (Nat.le_of_ble_eq_true rfl) (Nat.le_of_ble_eq_true rfl) ?_
  exact kk _ _ ls hS (lv_sub hl [2, 6] rfl)
end
section
/-! THE CLAIM OUT OF ONE WALK OF THE LAW'S BODY. Your part is whole_start (and what it stands on); all else here is the same for every law, but numbers. -/
def R_law : String := "ImageGcdsLaw"
def lw_P (b : Addr) (xs : List Int32) (args : Array Value) (s : State) : Prop := args = #[.ref b] ∧ s.IntsAt b xs ∧ xs.length ≤ 8 ∧ (Jvm.Cond.and given_1 narrow_1).before args s = true
def lw_Q (_ : Array Value) (s : State) (o : Outcome) (t : State) : Prop := o = .returned (some (.int 1)) ∧ Framed s o t [] 600002 7302198
def lw_Z (below : List Frame) (a : Array Value) (s : State) : State → Prop := fun t => ∃ o, t.status = .running ∧ Ended t below o ∧ lw_Q a s o t
/-- the law's own end, with 1 on the stack, nothing written that was there before, its room as the claim has it -/
theorem lw_ret {p : Program} {l : Launch} {e : Env} {s : State} {m : MethodId} {below : List Frame} {meth : Method} {c : Code} {b : Nat} (hx : p.tables.exec = Jvm.exec) (hb : c.code = code) (hr : meth.sig.returnType = ret) (hlocks : meth.locks = false) {pc : Nat} {H : Heap} {ls : Array Slot} (hdg : decode code pc = .ok (.ireturn, 1)) : W p l e room_1 s m #[Value.ref b] below meth c H [] 600002 7302198 (lw_Z below #[Value.ref b] s) (F0 m pc ls [.int 1]) := by
  intro T hT X
  obtain ⟨fs, hret, hrun, hended, hW, hframe⟩ := X.leave (v := some (.int 1)) (hlocks := hlocks) (fun h => by rw [hr] at h; cases h)
  have hmeth' : T.vm.method? m = some meth := X.method'
  refine ⟨T.setFrames fs, ?_, .returned (some (.int 1)), hrun, hended, rfl, ⟨_, rfl⟩, hW, hframe⟩
  jvm_step X.here [X.here.top, hx, hb, hdg, hmeth', hr, ret, narrow_b1]
  (try refine ⟨rfl, ?_⟩); (try refine ⟨rfl, ?_⟩)
  first | (intro acts; rw [hret _ acts rfl rfl rfl]) | rw [hret _ _ rfl rfl rfl]
  exact Steps.refl _
/-- what holds at the law's entry: the machine, the code, the tables' words (any of lw_tbl by 'hts w (by decide +kernel)'), the script of L ints xs at the cell b, what the Statement gives of the start (any of its parts by flat_of_before) -/
def lw_At (p : Program) (s : State) (m : MethodId) (meth : Method) (c : Code) (b L : Nat) (xs : Nat → Int32) : Prop :=
  p.tables.exec = Jvm.exec ∧ c.code = code ∧ meth.sig.returnType = ret ∧ c.maxLocals = 7 ∧ s.vm.findClass R_law = some m.cls ∧ (∀ w ∈ lw_tbl, w.before #[Value.ref b] s = true) ∧ va_X b L xs s s.heap ∧ b < s.heap.size ∧ meth.locks = false ∧ (Jvm.Cond.and given_1 narrow_1).before #[Value.ref b] s = true
set_option maxRecDepth 20000 in
theorem tb_B0 : ∀ w ∈ B0, w ∈ lw_tbl := by decide +kernel
set_option maxRecDepth 20000 in
theorem tb_B1 : ∀ w ∈ B1, w ∈ lw_tbl := by decide +kernel
set_option maxRecDepth 20000 in
theorem tb_B2 : ∀ w ∈ B2, w ∈ lw_tbl := by decide +kernel
set_option maxRecDepth 20000 in
theorem tb_B3 : ∀ w ∈ B3, w ∈ lw_tbl := by decide +kernel
set_option maxRecDepth 20000 in
theorem tb_B4 : ∀ w ∈ B4, w ∈ lw_tbl := by decide +kernel
set_option maxRecDepth 20000 in
theorem tb_B5 : ∀ w ∈ B5, w ∈ lw_tbl := by decide +kernel
set_option maxRecDepth 20000 in
theorem tb_B6 : ∀ w ∈ B6, w ∈ lw_tbl := by decide +kernel
set_option maxRecDepth 20000 in
theorem tb_B7 : ∀ w ∈ B7, w ∈ lw_tbl := by decide +kernel
set_option maxRecDepth 20000 in
theorem tb_B8 : ∀ w ∈ B8, w ∈ lw_tbl := by decide +kernel
set_option maxRecDepth 20000 in
theorem tb_B9 : ∀ w ∈ B9, w ∈ lw_tbl := by decide +kernel
set_option maxRecDepth 20000 in
theorem tb_B10 : ∀ w ∈ B10, w ∈ lw_tbl := by decide +kernel
set_option maxRecDepth 20000 in
theorem tb_B11 : ∀ w ∈ B11, w ∈ lw_tbl := by decide +kernel
set_option maxRecDepth 20000 in
theorem tb_B12 : ∀ w ∈ B12, w ∈ lw_tbl := by decide +kernel
set_option maxRecDepth 20000 in
theorem tb_B13 : ∀ w ∈ B13, w ∈ lw_tbl := by decide +kernel
set_option maxRecDepth 20000 in
theorem tb_B14 : ∀ w ∈ B14, w ∈ lw_tbl := by decide +kernel
set_option maxRecDepth 20000 in
theorem tb_wUG : ∀ w ∈ wUG, w ∈ lw_tbl := by decide +kernel
set_option maxRecDepth 20000 in
theorem tb_wUP : ∀ w ∈ wUP, w ∈ lw_tbl := by decide +kernel
set_option maxRecDepth 20000 in
theorem tb_wUM : ∀ w ∈ wUM, w ∈ lw_tbl := by decide +kernel
set_option maxRecDepth 20000 in
theorem tb_thW : ∀ w ∈ thW, w ∈ lw_tbl := by decide +kernel
theorem W0t : ∀ w ∈ W0, w ∈ lw_tbl := by
  intro w h
  unfold W0 at h
  simp only [List.mem_append] at h
  rcases h with h | h | h | h | h | h | h | h | h | h | h | h | h | h | h | h | h | h | h
  · exact tb_B0 w h
  · exact tb_B1 w h
  · exact tb_B2 w h
  · exact tb_B3 w h
  · exact tb_B4 w h
  · exact tb_B5 w h
  · exact tb_B6 w h
  · exact tb_B7 w h
  · exact tb_B8 w h
  · exact tb_B9 w h
  · exact tb_B10 w h
  · exact tb_B11 w h
  · exact tb_B12 w h
  · exact tb_B13 w h
  · exact tb_B14 w h
  · exact tb_wUG w h
  · exact tb_wUP w h
  · exact tb_wUM w h
  · exact tb_thW w h
end
section
set_option maxHeartbeats 4000000 in
set_option maxRecDepth 100000 in
theorem lw_start8 {p : Program} {e : Env} {s : State} {m : MethodId} {below : List Frame} {meth : Method} {c : Code} (l : Launch) (htr : l.stackTraces = false) {b L : Nat} {xs : Nat → Int32} (hL : L ≤ 8) (C0 : lw_At p s m meth c b L xs) : W p l e room_1 s m #[Value.ref b] below meth c s.heap [] 0 0 (lw_Z below #[Value.ref b] s) (entryFrame m ([Value.ref b] : List Value).toArray 7) := by
  obtain ⟨hx, hb, hr, hml, hown, hts, hX, hbl, hlocks, hgv⟩ := id C0
  have hown : s.vm.findClass "ImageGcdsLaw" = some m.cls := hown
  have hb : c.code = bL_law := hb
  have hA : ∀ q : Nat, s.heap.size ≤ q → (fun q : Nat => s.heap.size ≤ q) q := fun _ h => h
  have hbA : ¬ (fun q : Nat => s.heap.size ≤ q) b := Nat.not_le.mpr hbl
  have hk : ∀ w ∈ W0, w.before #[Value.ref b] s = true := fun w h => hts w (W0t w h)
  have hflat := flat_of_before _ hgv
  have hth : th_S s := ⟨th_L.of (hts (.laysStatic Bundle.tN "UNASSIGNED_STACK" Bundle.steD) (by decide +kernel)) (hflat (.isRef (.static Bundle.tN "UNASSIGNED_STACK" Bundle.steD)) (by decide +kernel)), th_L.of (hts (.laysStatic Bundle.tN "SUPPRESSED_SENTINEL" Bundle.listD) (by decide +kernel)) (hflat (.isRef (.static Bundle.tN "SUPPRESSED_SENTINEL" Bundle.listD)) (by decide +kernel))⟩
  obtain ⟨sa, hstr⟩ : ∃ sa, vk_R "ImageGcds" 139 "no such polynomial" sa s := by
    obtain ⟨a2, c2, cA2, kA2, q1, -⟩ := Cond.exactly_spec (args := #[Value.ref b]) (first := s) (o := none) (s := s) (idx := []) (t := .string "ImageGcds" 139) (cls := "java/lang/String") (hflat (.exactly (.string "ImageGcds" 139) "java/lang/String") (by decide +kernel))
    exact ⟨a2, vk_R.of (hts (.stringRef "ImageGcds" 139 "no such polynomial") (by decide +kernel)) q1⟩
  have hAO : va_AO "ImageGcds$Poly" s := va_AO.of (hts (.arrayOver (.object "ImageGcds$Poly")) (by decide +kernel))
  obtain ⟨c0, iS0, hKn0⟩ := u_known (C := "ImageGcds") (T := TG) (N := 4) (n := 4) hk uG (hk _ k272)
  obtain ⟨c1, iS1, hKn1⟩ := u_known (C := "ImageGcds$Poly") (T := TP) (N := 3) (n := 3) hk uP (hk _ k140)
  obtain ⟨c2, iS2, hKn2⟩ := u_known (C := "ImageGcdsModel") (T := TM) (N := 25) (n := 25) hk uM (hk _ k273)
  obtain ⟨dC, dI, hKc⟩ : ∃ (dC : Nat → ClassId) (dI : Nat → Nat → Nat), ∀ (k : Nat) (q : vw_C), cls9[k]? = some q → u_Kn s q.1 q.2.1 q.2.2 (dC k) (dI k) := by
    refine ⟨fun k => if k = 0 then c0 else if k = 1 then c1 else c2, fun k => if k = 0 then iS0 else if k = 1 then iS1 else iS2, ?_⟩
    intro k q hq
    match k, hq with
    | 0, hq => cases hq; exact hKn0
    | 1, hq => cases hq; exact hKn1
    | 2, hq => cases hq; exact hKn2
    | k + 3, hq => simp [cls9] at hq
  have hS : va_S (fun q : Nat => s.heap.size ≤ q) s.heap s.heap [] := va_S.rf
  have hK : va_K (dC, dI) cls9 [] s := ⟨hKc, fun k q h => by simp at h⟩
  have hK0 := hK
  have hP : va_P (dC, dI) cls9 [] s.heap := fun k q h => by simp at h
  have hD : va_D (fun q : Nat => s.heap.size ≤ q) [] := ⟨fun i j p q h => by simp at h, fun k q h => by simp at h⟩
  have hl := lv_entry ([.ref b]) (n := 7) (Nat.le_of_ble_eq_true rfl)
  rw [lg_entry_eq]
  generalize (lg_sl ([.ref b]) ++ List.replicate (7 - (lg_sl ([.ref b])).length) Slot.unset).toArray = ls at hl ⊢
  have hl : lv_has ls 7 [(0, .ref b)] := hl
  have hXb : ∀ {av : List Value}, FrameBlind (va_Pc av (fun U => va_X b L xs U U.heap ∧ b < U.heap.size)) := fun a U g mk q => ⟨q.1, va_X.moved (u := U) (U := U.calling g mk a) (Vm.Alike.refl U.vm) q.2.1, q.2.2⟩
  refine va_new (ci := 0) (fs := [.int 0, .null, .int 0, .null]) (C := "ImageGcds") (T := TG) (N := 4) hx hb hk uG tG tG_ok hown (hk _ k274) (hk _ k272) (hk _ k6) hK hP hD hS hA rfl (fun j hj => match j, hj with | 0, _ => rfl | 1, _ => rfl | 2, _ => rfl | 3, _ => rfl | j + 4, h => absurd h (by omega)) (Nat.le_of_ble_eq_true rfl) (Nat.le_of_ble_eq_true rfl) dL_law_0 (fun q0 H hP hD hS => ?_)
  have hP : va_P (dC, dI) cls9 [(q0, .inr (0, [.int 0, .null, .int 0, .null]))] H := hP
  have hD : va_D (fun q : Nat => s.heap.size ≤ q) [(q0, .inr (0, [.int 0, .null, .int 0, .null]))] := hD
  refine lv_dup hx hb dL_law_3 rfl ?_
  refine lv_aload_n hx hb dL_law_4 rfl (lv_at hl 0 rfl) ?_
  refine lv_iconst (v := 0) hx hb dL_law_5 (by decide) ?_
  refine vp_callSi (W.runS (As := [.ref b, .int 0]) (rest := [.ref q0, .ref q0]) ⟨hx, hb, hml, hown, hk⟩ (cL_cell l b L xs (by omega)) (va_cwS 2 hk (gS k275 k276 k156 k277) rfl rfl rfl (by decide +kernel) ⟨Nat.le_of_ble_eq_true rfl, Nat.le_of_ble_eq_true rfl⟩) ⟨hXb, fun U hU hW => ⟨rfl, by rw [hU]; exact (hX.kept (hS.2.1 b hbl hbA)).moved hW.alike, by rw [hU]; exact Nat.lt_of_lt_of_le hbl hS.1⟩⟩ rfl rfl hl.1 rfl (lv_room (Nat.le_of_ble_eq_true rfl)) dL_law_6 ⟨Nat.le_of_ble_eq_true rfl, Nat.le_of_ble_eq_true rfl⟩) (fun r0 _ => ?_)
  have hPc := hP.sub (ws' := [(q0, .inr (0, [.int 0, .null, .int 0, .null]))]) [0] rfl
  have hFc := va_free (wc := [(q0, .inr (0, [.int 0, .null, .int 0, .null]))]) hD hS hA [0] rfl
  refine va_callv (va_runI (As := [.int r0]) (rest := [.ref q0]) ⟨hx, hb, hml, hown, hk⟩ (cG_init l dC dI q0 _ r0) (cwI 1 hk (gI k278) rfl rfl rfl (hk _ k6) (hk _ k279) (hk _ k280) rfl (by decide +kernel) ⟨Nat.le_of_ble_eq_true rfl, Nat.le_of_ble_eq_true rfl⟩) ⟨fun a U g mk q => ⟨q.1, q.2.1, q.2.2.1, va_K.moved (u := U) (U := U.calling g mk a) (Vm.Alike.refl U.vm) q.2.2.2.1, va_AO.moved (u := U) (U := U.calling g mk a) (Vm.Alike.refl U.vm) q.2.2.2.2⟩, fun U hU hW => ⟨rfl, by rw [hU], by rw [hU]; exact hPc, va_K.moved hW.alike hK0, va_AO.moved hW.alike hAO⟩⟩ rfl rfl hl.1 rfl (lv_room (Nat.le_of_ble_eq_true rfl)) dL_law_9 ⟨Nat.le_of_ble_eq_true rfl, Nat.le_of_ble_eq_true rfl⟩) hS (fun q _ h => hFc q h) hFc (fun u t H1 locs ht hvm hw hB hz1 hk1 hS => ?_)
  obtain ⟨le, qp, cA, hP1, hK1, hD1⟩ := hB
  rw [ht] at hP1
  have hK : va_K (dC, dI) cls9 [(cA, .object "ImageGcds$Poly")] s := va_K.moved hvm.symm hK1
  obtain ⟨hP, hD⟩ := va_join (wr := []) (w1 := [(q0, .inr (0, [.int le, .ref qp, .int 0, .null])), (qp, .inl (cA, 60, .inr (.inr (.inr (.inr (fun _ => none))))))]) hP hD [0] [] rfl rfl (by decide) (by decide) hk1 hFc hP1 hD1
  generalize H1 = H at hP hS ⊢
  have hP : va_P (dC, dI) cls9 [(q0, .inr (0, [.int le, .ref qp, .int 0, .null])), (qp, .inl (cA, 60, .inr (.inr (.inr (.inr (fun _ => none))))))] H := hP
  have hD : va_D (fun q : Nat => s.heap.size ≤ q) [(q0, .inr (0, [.int le, .ref qp, .int 0, .null])), (qp, .inl (cA, 60, .inr (.inr (.inr (.inr (fun _ => none))))))] := hD
  refine lv_astore_n (lv' := [(1, .ref q0), (0, .ref b)]) hx hb dL_law_12 rfl hl (by decide) rfl (fun ls hl => ?_)
  refine va_new (ci := 2) (fs := [.int 0, .int 0, .int 0, .null, .null, .null, .null, .null, .int 0, .int 0, .int 0, .null, .null, .null, .null, .null, .null, .null, .null, .null, .null, .null, .null, .null, .int 0]) (C := "ImageGcdsModel") (T := TM) (N := 25) hx hb hk uM tM tM_ok hown (hk _ k281) (hk _ k273) (hk _ k71) hK hP hD hS hA rfl (fun j hj => match j, hj with | 0, _ => rfl | 1, _ => rfl | 2, _ => rfl | 3, _ => rfl | 4, _ => rfl | 5, _ => rfl | 6, _ => rfl | 7, _ => rfl | 8, _ => rfl | 9, _ => rfl | 10, _ => rfl | 11, _ => rfl | 12, _ => rfl | 13, _ => rfl | 14, _ => rfl | 15, _ => rfl | 16, _ => rfl | 17, _ => rfl | 18, _ => rfl | 19, _ => rfl | 20, _ => rfl | 21, _ => rfl | 22, _ => rfl | 23, _ => rfl | 24, _ => rfl | j + 25, h => absurd h (by omega)) (Nat.le_of_ble_eq_true rfl) (Nat.le_of_ble_eq_true rfl) dL_law_13 (fun q1 H hP hD hS => ?_)
  have hP : va_P (dC, dI) cls9 [(q0, .inr (0, [.int le, .ref qp, .int 0, .null])), (qp, .inl (cA, 60, .inr (.inr (.inr (.inr (fun _ => none)))))), (q1, .inr (2, [.int 0, .int 0, .int 0, .null, .null, .null, .null, .null, .int 0, .int 0, .int 0, .null, .null, .null, .null, .null, .null, .null, .null, .null, .null, .null, .null, .null, .int 0]))] H := hP
  have hD : va_D (fun q : Nat => s.heap.size ≤ q) [(q0, .inr (0, [.int le, .ref qp, .int 0, .null])), (qp, .inl (cA, 60, .inr (.inr (.inr (.inr (fun _ => none)))))), (q1, .inr (2, [.int 0, .int 0, .int 0, .null, .null, .null, .null, .null, .int 0, .int 0, .int 0, .null, .null, .null, .null, .null, .null, .null, .null, .null, .null, .null, .null, .null, .int 0]))] := hD
  refine lv_dup hx hb dL_law_16 rfl ?_
  refine lv_aload_n hx hb dL_law_17 rfl (lv_at hl 1 rfl) ?_
  refine lv_iconst (v := 0) hx hb dL_law_18 (by decide) ?_
  refine vp_callSi (W.runS (As := [.ref b, .int 0]) (rest := [.ref q1, .ref q1]) ⟨hx, hb, hml, hown, hk⟩ (cL_cell l b L xs (by omega)) (va_cwS 2 hk (gS k275 k276 k156 k277) rfl rfl rfl (by decide +kernel) ⟨Nat.le_of_ble_eq_true rfl, Nat.le_of_ble_eq_true rfl⟩) ⟨hXb, fun U hU hW => ⟨rfl, by rw [hU]; exact (hX.kept (hS.2.1 b hbl hbA)).moved hW.alike, by rw [hU]; exact Nat.lt_of_lt_of_le hbl hS.1⟩⟩ rfl rfl hl.1 rfl (lv_room (Nat.le_of_ble_eq_true rfl)) dL_law_19 ⟨Nat.le_of_ble_eq_true rfl, Nat.le_of_ble_eq_true rfl⟩) (fun r1 _ => ?_)
  have hPc := hP.sub (ws' := [(q1, .inr (2, [.int 0, .int 0, .int 0, .null, .null, .null, .null, .null, .int 0, .int 0, .int 0, .null, .null, .null, .null, .null, .null, .null, .null, .null, .null, .null, .null, .null, .int 0]))]) [2] rfl
  have hFc := va_free (wc := [(q1, .inr (2, [.int 0, .int 0, .int 0, .null, .null, .null, .null, .null, .int 0, .int 0, .int 0, .null, .null, .null, .null, .null, .null, .null, .null, .null, .null, .null, .null, .null, .int 0]))]) hD hS hA [2] rfl
  refine va_callv (va_runI (As := [.int r1]) (rest := [.ref q1]) ⟨hx, hb, hml, hown, hk⟩ (cM_init l dC dI q1 _ r1) (cwI 1 hk (gI k282) rfl rfl rfl (hk _ k71) (hk _ k283) (hk _ k284) rfl (by decide +kernel) ⟨Nat.le_of_ble_eq_true rfl, Nat.le_of_ble_eq_true rfl⟩) ⟨fun a U g mk q => ⟨q.1, q.2.1, q.2.2.1, va_K.moved (u := U) (U := U.calling g mk a) (Vm.Alike.refl U.vm) q.2.2.2⟩, fun U hU hW => ⟨rfl, by rw [hU], by rw [hU]; exact hPc, va_K.moved hW.alike hK0⟩⟩ rfl rfl hl.1 rfl (lv_room (Nat.le_of_ble_eq_true rfl)) dL_law_22 ⟨Nat.le_of_ble_eq_true rfl, Nat.le_of_ble_eq_true rfl⟩) hS (fun q _ h => hFc q h) hFc (fun u t H1 locs ht hvm hw hB hz1 hk1 hS => ?_)
  obtain ⟨lm, qn, cN, f, fs, hP1, hK1, hD1⟩ := hB
  rw [ht] at hP1
  have hK : va_K (dC, dI) cls9 [(cA, .object "ImageGcds$Poly"), (cN, .int)] s := hK.app (va_K.moved hvm.symm hK1)
  obtain ⟨hP, hD⟩ := va_join (wr := [(q0, .inr (0, [.int le, .ref qp, .int 0, .null])), (qp, .inl (cA, 60, .inr (.inr (.inr (.inr (fun _ => none))))))]) (w1 := [(q1, .inr (2, .int 0 :: .int lm :: .int 0 :: .ref qn :: fs)), (qn, .inl (cN, 290816, .inl f))]) hP hD [2] [0, 1] rfl rfl (by decide) (by decide) hk1 hFc hP1 hD1
  generalize H1 = H at hP hS ⊢
  have hP : va_P (dC, dI) cls9 [(q0, .inr (0, [.int le, .ref qp, .int 0, .null])), (qp, .inl (cA, 60, .inr (.inr (.inr (.inr (fun _ => none)))))), (q1, .inr (2, .int 0 :: .int lm :: .int 0 :: .ref qn :: fs)), (qn, .inl (cN, 290816, .inl f))] H := hP
  have hD : va_D (fun q : Nat => s.heap.size ≤ q) [(q0, .inr (0, [.int le, .ref qp, .int 0, .null])), (qp, .inl (cA, 60, .inr (.inr (.inr (.inr (fun _ => none)))))), (q1, .inr (2, .int 0 :: .int lm :: .int 0 :: .ref qn :: fs)), (qn, .inl (cN, 290816, .inl f))] := hD
  refine lv_astore_n (lv' := [(2, .ref q1), (1, .ref q0), (0, .ref b)]) hx hb dL_law_25 rfl hl (by decide) rfl (fun ls hl => ?_)
  refine lv_iconst (v := 1) hx hb dL_law_26 (by decide) ?_
  refine va_newa (ty := .long) (atype := .long) (a0 := (1, .inr (.inl (fun _ => 0)))) (N' := 1) hx hb (hk _ k285) rfl hK hP hD hS hA (fun cA => vp_cell_l cA _ _) (by decide +kernel) (by decide +kernel) (by decide +kernel) (Nat.le_of_ble_eq_true rfl) (Nat.le_of_ble_eq_true rfl) dL_law_27 (fun qo cO H hK hP hD hS => ?_)
  have hP : va_P (dC, dI) cls9 [(q0, .inr (0, [.int le, .ref qp, .int 0, .null])), (qp, .inl (cA, 60, .inr (.inr (.inr (.inr (fun _ => none)))))), (q1, .inr (2, .int 0 :: .int lm :: .int 0 :: .ref qn :: fs)), (qn, .inl (cN, 290816, .inl f)), (qo, .inl (cO, 1, .inr (.inl (fun _ => 0))))] H := hP
  have hD : va_D (fun q : Nat => s.heap.size ≤ q) [(q0, .inr (0, [.int le, .ref qp, .int 0, .null])), (qp, .inl (cA, 60, .inr (.inr (.inr (.inr (fun _ => none)))))), (q1, .inr (2, .int 0 :: .int lm :: .int 0 :: .ref qn :: fs)), (qn, .inl (cN, 290816, .inl f)), (qo, .inl (cO, 1, .inr (.inl (fun _ => 0))))] := hD
  have hK : va_K (dC, dI) cls9 [(cA, .object "ImageGcds$Poly"), (cN, .int), (cO, .long)] s := hK
  refine lv_astore_n (lv' := [(3, .ref qo), (2, .ref q1), (1, .ref q0), (0, .ref b)]) hx hb dL_law_29 rfl hl (by decide) rfl (fun ls hl => ?_)
  refine lv_iconst (v := 1) hx hb dL_law_30 (by decide) ?_
  refine lv_istore (lv' := [(4, .int 1), (3, .ref qo), (2, .ref q1), (1, .ref q0), (0, .ref b)]) hx hb dL_law_31 hl (by decide) rfl (fun ls hl => ?_)
  refine W.widen (k := 22) (n := 344734) (Nat.le_of_ble_eq_true rfl) (Nat.le_of_ble_eq_true rfl) ?_
  have fin : ∀ (H : Heap) (locs : List Loc) (ls : Array Slot) (k n : Nat), k ≤ 600002 → n ≤ 7302198 → va_S (fun q : Nat => s.heap.size ≤ q) s.heap H locs → W p l e room_1 s m #[Value.ref b] below meth c H locs k n (lw_Z below #[Value.ref b] s) (F0 m 1271 ls []) := by
    intro H locs ls k n h1 h2 hS
    refine lv_iconst (v := 1) hx hb dL_law_1271 (by decide) ?_
    refine va_forget (fun q hq => hS.2.2 q hq) ?_
    refine W.widen (k := 600002) (n := 7302198) h1 h2 ?_
    exact lw_ret hx hb hr hlocks dL_law_1272
  refine lv_iload hx hb dL_law_33 (lv_at hl 0 rfl) ?_
  refine lv_aload_n hx hb dL_law_35 rfl (lv_at hl 4 rfl) ?_
  refine va_slen hx hb hX hbl hbA hS dL_law_36 ?_
  refine lv_bipush (v := 7) hx hb dL_law_37 (by decide) ?_
  refine lv_isub hx hb dL_law_39 ?_
  refine lv_topi (fun v ev => ?_)
  refine lv_icmp_gt (tgt := 1271) hx hb dL_law_40 (by decide) (fun c1 => ?_) (fun c1 => ?_)
  · exact fin H _ ls _ _ (Nat.le_of_ble_eq_true rfl) (Nat.le_of_ble_eq_true rfl) hS
  have hL8 : L = 8 := by
    rcases (show L = 0 ∨ L = 1 ∨ L = 2 ∨ L = 3 ∨ L = 4 ∨ L = 5 ∨ L = 6 ∨ L = 7 ∨ L = 8 by omega) with h | h | h | h | h | h | h | h | h
    · exact absurd (by rw [ev, h]; decide) c1
    · exact absurd (by rw [ev, h]; decide) c1
    · exact absurd (by rw [ev, h]; decide) c1
    · exact absurd (by rw [ev, h]; decide) c1
    · exact absurd (by rw [ev, h]; decide) c1
    · exact absurd (by rw [ev, h]; decide) c1
    · exact absurd (by rw [ev, h]; decide) c1
    · exact absurd (by rw [ev, h]; decide) c1
    · exact h
  have kk : ∀ (H : Heap) (locs : List Loc) (ls : Array Slot), va_S (fun q : Nat => s.heap.size ≤ q) s.heap H locs → lv_has ls 7 [(4, .int 1), (0, .ref b)] → W p l e room_1 s m #[Value.ref b] below meth c H locs 25 344740 (lw_Z below #[Value.ref b] s) (F0 m 1265 ls []) := by
    intro H locs ls hS hl
    refine lv_iinc (v := 8) (lv' := [(4, .int 8), (0, .ref b)]) hx hb dL_law_1265 hl (k := 0) rfl (by decide) (by decide) rfl (fun ls hl => ?_)
    refine lv_goto (tgt := 33) hx hb dL_law_1268 (by decide) ?_
    refine lv_iload hx hb dL_law_33 (lv_at hl 0 rfl) ?_
    refine lv_aload_n hx hb dL_law_35 rfl (lv_at hl 1 rfl) ?_
    refine va_slen hx hb hX hbl hbA hS dL_law_36 ?_
    refine lv_bipush (v := 7) hx hb dL_law_37 (by decide) ?_
    refine lv_isub hx hb dL_law_39 ?_
    refine lv_topi (fun v2 ev2 => ?_)
    refine lv_icmp_gt (tgt := 1271) hx hb dL_law_40 (by decide) (fun c2 => ?_) (fun c2 => ?_)
    · exact fin H _ ls _ _ (Nat.le_of_ble_eq_true rfl) (Nat.le_of_ble_eq_true rfl) hS
    · exact absurd (by rw [ev2, hL8]; decide) c2
  refine lv_aload_n hx hb dL_law_43 rfl (lv_at hl 4 rfl) ?_
  refine lv_iload hx hb dL_law_44 (lv_at hl 0 rfl) ?_
  have hin1 : vp_in 1 L := by rw [show (1 : Int32) = nI 1 by decide]; exact vp_in_nI (by omega) (by omega)
  refine va_sld hx hb hX hbl hbA hS hin1 dL_law_46 ?_
  refine lv_topi (fun a ea => ?_)
  refine lv_bipush (v := 15) hx hb dL_law_47 (by decide) ?_
  refine lv_iand hx hb dL_law_49 ?_
  refine lv_topi (fun y ey => ?_)
  obtain ⟨j, hj, ej⟩ := pk_andE a (m := 15) 4 (by decide)
  have ey : y = nI j := ey.trans ej
  subst ey
  rcases (show j = 0 ∨ j = 1 ∨ j = 2 ∨ j = 3 ∨ j = 4 ∨ j = 5 ∨ j = 6 ∨ j = 7 ∨ j = 8 ∨ j = 9 ∨ j = 10 ∨ j = 11 ∨ j = 12 ∨ j = 13 ∨ j = 14 ∨ j = 15 by omega) with rfl | rfl | rfl | rfl | rfl | rfl | rfl | rfl | rfl | rfl | rfl | rfl | rfl | rfl | rfl | rfl
  · refine lv_tableIn (off := 78) (tgt := 128) hx hb dL_law_50 (by decide) (by decide) (by decide) (by decide) ?_
    exact la_0 htr hL8 hx hb hml hown hX hbl hk hK hth hstr hP hD hS hl kk
  · refine lv_tableIn (off := 122) (tgt := 172) hx hb dL_law_50 (by decide) (by decide) (by decide) (by decide) ?_
    exact la_1 htr hL8 hx hb hml hown hX hbl hk hK hth hstr hP hD hS hl kk
  · refine lv_tableIn (off := 287) (tgt := 337) hx hb dL_law_50 (by decide) (by decide) (by decide) (by decide) ?_
    exact la_2 htr hL8 hx hb hml hown hX hbl hk hK hth hstr hP hD hS hl kk
  · refine lv_tableIn (off := 355) (tgt := 405) hx hb dL_law_50 (by decide) (by decide) (by decide) (by decide) ?_
    exact la_3 htr hL8 hx hb hml hown hX hbl hk hK hth hstr hP hD hS hl kk
  · refine lv_tableIn (off := 423) (tgt := 473) hx hb dL_law_50 (by decide) (by decide) (by decide) (by decide) ?_
    exact la_4 htr hL8 hx hb hml hown hX hbl hk hK hth hstr hP hD hS hl kk
  · refine lv_tableIn (off := 491) (tgt := 541) hx hb dL_law_50 (by decide) (by decide) (by decide) (by decide) ?_
    exact la_5 htr hL8 hx hb hml hown hX hbl hk hK hth hstr hP hD hS hl kk
  · refine lv_tableIn (off := 559) (tgt := 609) hx hb dL_law_50 (by decide) (by decide) (by decide) (by decide) ?_
    exact la_6 htr hL8 hx hb hml hown hX hbl hk hK hth hstr hP hD hS hl kk
  · refine lv_tableIn (off := 639) (tgt := 689) hx hb dL_law_50 (by decide) (by decide) (by decide) (by decide) ?_
    exact la_7 htr hL8 hx hb hml hown hX hbl hk hK hth hstr hP hD hS hl kk
  · refine lv_tableIn (off := 707) (tgt := 757) hx hb dL_law_50 (by decide) (by decide) (by decide) (by decide) ?_
    exact la_8 htr hL8 hx hb hml hown hX hbl hk hK hth hstr hP hD hS hl kk
  · refine lv_tableIn (off := 775) (tgt := 825) hx hb dL_law_50 (by decide) (by decide) (by decide) (by decide) ?_
    exact la_9 htr hL8 hx hb hml hown hX hbl hk hK hth hstr hP hD hS hl kk
  · refine lv_tableIn (off := 843) (tgt := 893) hx hb dL_law_50 (by decide) (by decide) (by decide) (by decide) ?_
    exact la_10 htr hL8 hx hb hml hown hX hbl hk hK hth hstr hP hD hS hl kk
  · refine lv_tableIn (off := 923) (tgt := 973) hx hb dL_law_50 (by decide) (by decide) (by decide) (by decide) ?_
    exact la_11 htr hL8 hx hb hml hown hX hbl hk hK hth hstr hP hD hS hl kk
  · refine lv_tableIn (off := 998) (tgt := 1048) hx hb dL_law_50 (by decide) (by decide) (by decide) (by decide) ?_
    exact la_12 htr hL8 hx hb hml hown hX hbl hk hK hth hstr hP hD hS hl kk
  · refine lv_tableIn (off := 1054) (tgt := 1104) hx hb dL_law_50 (by decide) (by decide) (by decide) (by decide) ?_
    exact la_13 htr hL8 hx hb hml hown hX hbl hk hK hth hstr hP hD hS hl kk
  · refine lv_tableIn (off := 1134) (tgt := 1184) hx hb dL_law_50 (by decide) (by decide) (by decide) (by decide) ?_
    exact la_14 htr hL8 hx hb hml hown hX hbl hk hK hth hstr hP hD hS hl kk
  · refine lv_tableIn (off := 1202) (tgt := 1252) hx hb dL_law_50 (by decide) (by decide) (by decide) (by decide) ?_
    exact la_15 htr hL8 hx hb hml hown hX hbl hk hK hth hstr hP hD hS hl kk
end
section
set_option maxHeartbeats 4000000 in
theorem lw_walk (l : Launch) (htr : l.stackTraces = false) (b : Addr) (xs : List Int32) : MetFree l x (headSpec (Jvm.Cond.code x code maxLocals ret :: tables_1) room_1) (lw_P b xs) (fun _ _ _ _ _ => True) lw_Q := by
  refine MetFree.of_bodyS (code := code) (maxLocals := maxLocals) (ret := ret) (by decide) ?_ ?_
  · intro args s m h hn
    obtain ⟨meth, c, h1, h2, h3, h4, h5, h6, -, -⟩ := Cond.code_spec hn (atoms_spec (ws := Jvm.Cond.code x code maxLocals ret :: tables_1) h _ List.mem_cons_self)
    exact ⟨meth, c, h1, h2, h3, h4, h5, h6⟩
  · intro p e s m args below meth c s₁ B hml0 hP _
    obtain ⟨rfl, hx, hbd, hgv⟩ := hP
    obtain ⟨scr, harrAt, hlist, hof, hsmall⟩ := hx
    obtain ⟨hcb, hkn, -, -⟩ := State.arrayAt?_spec harrAt
    have hown : s.vm.findClass R_law = some m.cls := findClass_of_methodNamed B.named
    have hts0 : ∀ c ∈ (Jvm.Cond.code x code maxLocals ret :: tables_1), c.before #[Value.ref b] s = true := atoms_spec (ws := Jvm.Cond.code x code maxLocals ret :: tables_1) B.pre
    have hts : ∀ w ∈ lw_tbl, w.before #[Value.ref b] s = true := k2_hts_sels lw_privs (fun w hw => hts0 w (List.mem_cons_of_mem _ hw)) lw_privs_ok
    have hml : c.maxLocals = 7 := B.maxLocals_eq (hts0 _ List.mem_cons_self)
    have X₀ : Stand p l e room_1 s m #[Value.ref b] below meth c s₁ [] 0 0 := Stand.of_body B
    have hh0 : s₁.heap = s.heap := by rw [B.state]; rfl
    have hsz : scr.slots.size = xs.length := by rw [← Array.length_toList, hlist, List.length_map]
    have hval : ∀ j : Nat, j < xs.length → scr.slots[j]? = some (.int (xs.getD j 0)) := fun j hj => by
      rw [← Array.getElem?_toList, hlist]
      simp [hj]
    have hbl : b < s.heap.size := (Array.getElem?_eq_some_iff.mp hcb).1
    have hX : va_X b xs.length (fun j => xs.getD j 0) s s.heap := ⟨scr, hcb, hof, hkn, hsz, hval⟩
    have K : W p l e room_1 s m #[Value.ref b] below meth c s₁.heap [] 0 0 (lw_Z below #[Value.ref b] s) (entryFrame m ([Value.ref b] : List Value).toArray 7) := by
      rw [hh0]
      exact lw_start8 l htr hbd ⟨B.exec, B.bytes, B.returns, hml, hown, hts, hX, hbl, B.notSynchronized, hgv⟩
    obtain ⟨t, a1, o, b1, b2, b3⟩ := K s₁ rfl X₀
    exact ⟨t, o, a1, b1, b2, b3⟩
theorem lw_pre_spec {args : Array Value} {s : State} (h : (Jvm.Cond.and given_1 narrow_1).before args s = true) (hr : rest_1_c.before args s = true) : ∃ (b : Addr) (xs : List Int32), lw_P b xs args s := by
  have hs := flat_of_before _ h
  have hq := flat_of_before _ hr
  have hc : (Cond.count 1).before args s = true := hs _ (by decide +kernel)
  have harr : (Cond.arrayOf (.arg 0) .int).before args s = true := hs _ (by decide +kernel)
  have hle : (Cond.le (.length (.arg 0)) (.int 8)).before args s = true := hs _ (by decide +kernel)
  have hlen : (Cond.isInt (.length (.arg 0))).before args s = true := hq _ (by decide +kernel)
  have hall : (Cond.all (.arg 0) (.isInt (.elem (.arg 0) (.index 0)))).before args s = true := hq _ (by decide +kernel)
  obtain ⟨b, xs, hb, hx⟩ := State.ints_of_pre rfl harr hlen hall
  have hsm : xs.length < 2 ^ 31 := hx.choose_spec.2.2.2
  have hev : (Term.length (.arg 0)).eval args s none [] s = some (.int xs.length.toInt32) := hx.length_eval hb
  have hv := Cond.le_ints hev (show (Term.int 8).eval args s none [] s = some (.int 8) from rfl)
  have hd : xs.length.toInt32 ≤ 8 := by
    simpa [Cond.before, Cond.holds, hv] using hle
  have hN : xs.length ≤ 8 := (Int32.ofNat_le_ofNat hsm (by decide)).mp (show Int32.ofNat xs.length ≤ Int32.ofNat 8 from hd)
  exact ⟨b, xs, Cond.one_arg hc (show args[0]? = some (.ref b) from hb), hx, hN, h⟩
theorem lw_comes (l : Launch) (htr : l.stackTraces = false) : Comes l x (Jvm.Cond.code x code maxLocals ret :: tables_1) room_1 (fun tb e args s => Calls_1 tb e args s ∧ rest_1 tb e args s ∧ Pre_1 tb e args s)
    (fun _ _ args s o t => lw_Q args s o t) := by
  intro p e ha hc hk s m args below hf hfit hheap happ hpre
  obtain ⟨b, xs, hP⟩ := lw_pre_spec hpre.2.2 hpre.2.1
  obtain ⟨k, o, h1, h2, h3, hQ⟩ := lw_walk l htr b xs p e ha hc hk s m args below hf ((Spec.applies_iff_loose hf).mp happ).1 hP trivial
  exact ⟨k, o, h1, h2, h3, hQ⟩
theorem lw_frame {s t : State} {o : Outcome} {args : Array Value} (h : Framed s o t [] 600002 7302198) :
    Framed s o t (fieldLocs frame_1_writes args s ++ arrayLocs frame_1_arrays args s ++ staticLocs frame_1_statics s) 600002 7302198 := h
theorem lw_limb (L : Cond) (hL : ∀ (args : Array Value) (s t : State), L.after args s (.returned (some (.int 1))) t = true) :
    ArmFor flags0 classFile x code maxLocals ret World_1 tables_1 room_1 Calls_1 rest_1 Pre_1
      (fun tb e a s o t => postC L tb e a s o t ∧ Framed s o t (fieldLocs frame_1_writes a s ++ arrayLocs frame_1_arrays a s ++ staticLocs frame_1_statics s) 600002 7302198) := by
  intro l hfl _ _ p e ha hc hk s m args below hf hfit hheap happ hpre
  obtain ⟨k, o, h1, h2, h3, rfl, hF⟩ := lw_comes l (by unfold Launch.stackTraces; rw [hfl]; decide) p e ha hc hk s m args below hf hfit hheap happ hpre
  exact ⟨k, _, h1, h2, h3, hL args s _, lw_frame hF⟩
theorem i_vc : Claimed_1_1 ∧ Claimed_1_2 := ⟨lw_limb limb_1_1 (fun args s t => by simp [limb_1_1, Cond.after, Cond.holds, Cond.value]), lw_limb limb_1_2 (fun args s t => Cond.after_iff.mpr (by
  first | (rw [show limb_1_2 = Cond.eq .result (.int 1) from rfl, Cond.eq_ints (x := 1) (y := 1) rfl rfl]; simp; done) | (simp [limb_1_2, Cond.value, Term.eval]; done)))⟩
end
