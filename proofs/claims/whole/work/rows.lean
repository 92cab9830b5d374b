section
-- ===== PART A: goes FIRST, ahead of the names: the tables' words, and 'selects' of the private methods out of them =====
/-- a private method of a class that the tables say can be made, by its rows of tables_1 -/
def lw_okq (q : MethodName × Nat) : Prop := (q.1.cls ≠ "java/lang/invoke/MethodHandle" ∧ q.1.cls ≠ "java/lang/invoke/VarHandle") ∧ Cond.instantiable q.1.cls q.2 ∈ tables_1 ∧ Cond.privateMethod q.1 ∈ tables_1 ∧ Cond.instanceMethod q.1 ∈ tables_1
theorem lw_p0 : lw_okq (⟨"ImageGcds", "requireRoom", "()V"⟩, 4) := ⟨⟨by decide +kernel, by decide +kernel⟩, List.mem_of_getElem? (i := 23) (by decide +kernel), List.mem_of_getElem? (i := 61) (by decide +kernel), List.mem_of_getElem? (i := 62) (by decide +kernel)⟩
theorem lw_p1 : lw_okq (⟨"java/lang/Throwable", "fillInStackTrace", "(I)Ljava/lang/Throwable;"⟩, 6) := ⟨⟨by decide +kernel, by decide +kernel⟩, List.mem_of_getElem? (i := 104) (by decide +kernel), List.mem_of_getElem? (i := 102) (by decide +kernel), List.mem_of_getElem? (i := 103) (by decide +kernel)⟩
theorem lw_p2 : lw_okq (⟨"ImageGcds", "keep", "(LImageGcds$Poly;)I"⟩, 4) := ⟨⟨by decide +kernel, by decide +kernel⟩, List.mem_of_getElem? (i := 23) (by decide +kernel), List.mem_of_getElem? (i := 156) (by decide +kernel), List.mem_of_getElem? (i := 157) (by decide +kernel)⟩
theorem lw_p3 : lw_okq (⟨"ImageGcds", "held", "(I)LImageGcds$Poly;"⟩, 4) := ⟨⟨by decide +kernel, by decide +kernel⟩, List.mem_of_getElem? (i := 23) (by decide +kernel), List.mem_of_getElem? (i := 170) (by decide +kernel), List.mem_of_getElem? (i := 171) (by decide +kernel)⟩
theorem lw_p4 : lw_okq (⟨"ImageGcds", "mirrored", "(I)I"⟩, 4) := ⟨⟨by decide +kernel, by decide +kernel⟩, List.mem_of_getElem? (i := 23) (by decide +kernel), List.mem_of_getElem? (i := 229) (by decide +kernel), List.mem_of_getElem? (i := 230) (by decide +kernel)⟩
theorem lw_p5 : lw_okq (⟨"ImageGcds$Poly", "placeOf", "(I)I"⟩, 3) := ⟨⟨by decide +kernel, by decide +kernel⟩, List.mem_of_getElem? (i := 133) (by decide +kernel), List.mem_of_getElem? (i := 237) (by decide +kernel), List.mem_of_getElem? (i := 238) (by decide +kernel)⟩
theorem lw_p6 : lw_okq (⟨"ImageGcds$Poly", "takeOut", "(I)V"⟩, 3) := ⟨⟨by decide +kernel, by decide +kernel⟩, List.mem_of_getElem? (i := 133) (by decide +kernel), List.mem_of_getElem? (i := 241) (by decide +kernel), List.mem_of_getElem? (i := 242) (by decide +kernel)⟩
theorem lw_p7 : lw_okq (⟨"ImageGcds$Poly", "insert", "(III)V"⟩, 3) := ⟨⟨by decide +kernel, by decide +kernel⟩, List.mem_of_getElem? (i := 133) (by decide +kernel), List.mem_of_getElem? (i := 248) (by decide +kernel), List.mem_of_getElem? (i := 249) (by decide +kernel)⟩
theorem lw_p8 : lw_okq (⟨"ImageGcds$Poly", "widen", "()V"⟩, 3) := ⟨⟨by decide +kernel, by decide +kernel⟩, List.mem_of_getElem? (i := 133) (by decide +kernel), List.mem_of_getElem? (i := 252) (by decide +kernel), List.mem_of_getElem? (i := 253) (by decide +kernel)⟩
theorem lw_p9 : lw_okq (⟨"ImageGcds", "requireLowProduct", "(LImageGcds$Poly;LImageGcds$Poly;)V"⟩, 4) := ⟨⟨by decide +kernel, by decide +kernel⟩, List.mem_of_getElem? (i := 23) (by decide +kernel), List.mem_of_getElem? (i := 294) (by decide +kernel), List.mem_of_getElem? (i := 295) (by decide +kernel)⟩
theorem lw_p10 : lw_okq (⟨"ImageGcds", "shiftOf", "(I)I"⟩, 4) := ⟨⟨by decide +kernel, by decide +kernel⟩, List.mem_of_getElem? (i := 23) (by decide +kernel), List.mem_of_getElem? (i := 298) (by decide +kernel), List.mem_of_getElem? (i := 299) (by decide +kernel)⟩
theorem lw_p11 : lw_okq (⟨"ImageGcds", "bench", "()LImageGcds$Bench;"⟩, 4) := ⟨⟨by decide +kernel, by decide +kernel⟩, List.mem_of_getElem? (i := 23) (by decide +kernel), List.mem_of_getElem? (i := 310) (by decide +kernel), List.mem_of_getElem? (i := 311) (by decide +kernel)⟩
theorem lw_p12 : lw_okq (⟨"ImageGcds$Divider", "collect", "([II)V"⟩, 5) := ⟨⟨by decide +kernel, by decide +kernel⟩, List.mem_of_getElem? (i := 320) (by decide +kernel), List.mem_of_getElem? (i := 528) (by decide +kernel), List.mem_of_getElem? (i := 529) (by decide +kernel)⟩
theorem lw_p13 : lw_okq (⟨"ImageGcds$Divider", "takeAway", "(II)V"⟩, 5) := ⟨⟨by decide +kernel, by decide +kernel⟩, List.mem_of_getElem? (i := 320) (by decide +kernel), List.mem_of_getElem? (i := 533) (by decide +kernel), List.mem_of_getElem? (i := 534) (by decide +kernel)⟩
theorem lw_p14 : lw_okq (⟨"ImageGcds$Images", "greatest", "(I[I[I[I)V"⟩, 5) := ⟨⟨by decide +kernel, by decide +kernel⟩, List.mem_of_getElem? (i := 343) (by decide +kernel), List.mem_of_getElem? (i := 548) (by decide +kernel), List.mem_of_getElem? (i := 549) (by decide +kernel)⟩
theorem lw_p15 : lw_okq (⟨"ImageGcds$Images", "floorOf", "(I)LImageGcds$Floor;"⟩, 5) := ⟨⟨by decide +kernel, by decide +kernel⟩, List.mem_of_getElem? (i := 343) (by decide +kernel), List.mem_of_getElem? (i := 564) (by decide +kernel), List.mem_of_getElem? (i := 565) (by decide +kernel)⟩
def lw_privs_1 : List (MethodName × Nat) := [(⟨"ImageGcds", "requireRoom", "()V"⟩, 4), (⟨"java/lang/Throwable", "fillInStackTrace", "(I)Ljava/lang/Throwable;"⟩, 6), (⟨"ImageGcds", "keep", "(LImageGcds$Poly;)I"⟩, 4), (⟨"ImageGcds", "held", "(I)LImageGcds$Poly;"⟩, 4), (⟨"ImageGcds", "mirrored", "(I)I"⟩, 4), (⟨"ImageGcds$Poly", "placeOf", "(I)I"⟩, 3), (⟨"ImageGcds$Poly", "takeOut", "(I)V"⟩, 3), (⟨"ImageGcds$Poly", "insert", "(III)V"⟩, 3), (⟨"ImageGcds$Poly", "widen", "()V"⟩, 3), (⟨"ImageGcds", "requireLowProduct", "(LImageGcds$Poly;LImageGcds$Poly;)V"⟩, 4), (⟨"ImageGcds", "shiftOf", "(I)I"⟩, 4), (⟨"ImageGcds", "bench", "()LImageGcds$Bench;"⟩, 4), (⟨"ImageGcds$Divider", "collect", "([II)V"⟩, 5), (⟨"ImageGcds$Divider", "takeAway", "(II)V"⟩, 5), (⟨"ImageGcds$Images", "greatest", "(I[I[I[I)V"⟩, 5), (⟨"ImageGcds$Images", "floorOf", "(I)LImageGcds$Floor;"⟩, 5)]
theorem lw_r1 : ∀ q ∈ lw_privs_1, lw_okq q := List.forall_mem_cons.mpr ⟨lw_p0, List.forall_mem_cons.mpr ⟨lw_p1, List.forall_mem_cons.mpr ⟨lw_p2, List.forall_mem_cons.mpr ⟨lw_p3, List.forall_mem_cons.mpr ⟨lw_p4, List.forall_mem_cons.mpr ⟨lw_p5, List.forall_mem_cons.mpr ⟨lw_p6, List.forall_mem_cons.mpr ⟨lw_p7, List.forall_mem_cons.mpr ⟨lw_p8, List.forall_mem_cons.mpr ⟨lw_p9, List.forall_mem_cons.mpr ⟨lw_p10, List.forall_mem_cons.mpr ⟨lw_p11, List.forall_mem_cons.mpr ⟨lw_p12, List.forall_mem_cons.mpr ⟨lw_p13, List.forall_mem_cons.mpr ⟨lw_p14, List.forall_mem_cons.mpr ⟨lw_p15, fun _ h => absurd h List.not_mem_nil⟩⟩⟩⟩⟩⟩⟩⟩⟩⟩⟩⟩⟩⟩⟩⟩
theorem lw_p16 : lw_okq (⟨"ImageGcds$Images", "search", "(ILImageGcds$Floor;[I)V"⟩, 5) := ⟨⟨by decide +kernel, by decide +kernel⟩, List.mem_of_getElem? (i := 343) (by decide +kernel), List.mem_of_getElem? (i := 586) (by decide +kernel), List.mem_of_getElem? (i := 587) (by decide +kernel)⟩
theorem lw_p17 : lw_okq (⟨"ImageGcds$Curve", "raise", "(II)V"⟩, 3) := ⟨⟨by decide +kernel, by decide +kernel⟩, List.mem_of_getElem? (i := 371) (by decide +kernel), List.mem_of_getElem? (i := 615) (by decide +kernel), List.mem_of_getElem? (i := 616) (by decide +kernel)⟩
theorem lw_p18 : lw_okq (⟨"ImageGcds$Curve", "multiplyProduct", "(I)V"⟩, 3) := ⟨⟨by decide +kernel, by decide +kernel⟩, List.mem_of_getElem? (i := 371) (by decide +kernel), List.mem_of_getElem? (i := 619) (by decide +kernel), List.mem_of_getElem? (i := 620) (by decide +kernel)⟩
theorem lw_p19 : lw_okq (⟨"ImageGcds", "requireLetter", "(I)V"⟩, 4) := ⟨⟨by decide +kernel, by decide +kernel⟩, List.mem_of_getElem? (i := 23) (by decide +kernel), List.mem_of_getElem? (i := 647) (by decide +kernel), List.mem_of_getElem? (i := 648) (by decide +kernel)⟩
theorem lw_p20 : lw_okq (⟨"ImageGcds", "requireLowResultant", "(LImageGcds$Poly;LImageGcds$Poly;I)V"⟩, 4) := ⟨⟨by decide +kernel, by decide +kernel⟩, List.mem_of_getElem? (i := 23) (by decide +kernel), List.mem_of_getElem? (i := 652) (by decide +kernel), List.mem_of_getElem? (i := 653) (by decide +kernel)⟩
theorem lw_p21 : lw_okq (⟨"ImageGcds$Bench", "spreadInFront", "(LImageGcds$Poly;I[I)V"⟩, 7) := ⟨⟨by decide +kernel, by decide +kernel⟩, List.mem_of_getElem? (i := 314) (by decide +kernel), List.mem_of_getElem? (i := 665) (by decide +kernel), List.mem_of_getElem? (i := 666) (by decide +kernel)⟩
theorem lw_p22 : lw_okq (⟨"ImageGcds$Images", "eliminate", "(I[I[I[I)V"⟩, 5) := ⟨⟨by decide +kernel, by decide +kernel⟩, List.mem_of_getElem? (i := 343) (by decide +kernel), List.mem_of_getElem? (i := 671) (by decide +kernel), List.mem_of_getElem? (i := 672) (by decide +kernel)⟩
theorem lw_p23 : lw_okq (⟨"ImageGcds$Bench", "gatheredBeside", "([II)LImageGcds$Poly;"⟩, 7) := ⟨⟨by decide +kernel, by decide +kernel⟩, List.mem_of_getElem? (i := 314) (by decide +kernel), List.mem_of_getElem? (i := 685) (by decide +kernel), List.mem_of_getElem? (i := 686) (by decide +kernel)⟩
theorem lw_p24 : lw_okq (⟨"ImageGcds$Bench", "divide", "([I[I[I)V"⟩, 7) := ⟨⟨by decide +kernel, by decide +kernel⟩, List.mem_of_getElem? (i := 314) (by decide +kernel), List.mem_of_getElem? (i := 731) (by decide +kernel), List.mem_of_getElem? (i := 732) (by decide +kernel)⟩
theorem lw_p25 : lw_okq (⟨"ImageGcdsModel", "isFull", "()Z"⟩, 25) := ⟨⟨by decide +kernel, by decide +kernel⟩, List.mem_of_getElem? (i := 784) (by decide +kernel), List.mem_of_getElem? (i := 875) (by decide +kernel), List.mem_of_getElem? (i := 876) (by decide +kernel)⟩
theorem lw_p26 : lw_okq (⟨"ImageGcdsModel", "fails", "(ZZZ)Z"⟩, 25) := ⟨⟨by decide +kernel, by decide +kernel⟩, List.mem_of_getElem? (i := 784) (by decide +kernel), List.mem_of_getElem? (i := 879) (by decide +kernel), List.mem_of_getElem? (i := 880) (by decide +kernel)⟩
theorem lw_p27 : lw_okq (⟨"ImageGcdsModel", "clear", "(I)V"⟩, 25) := ⟨⟨by decide +kernel, by decide +kernel⟩, List.mem_of_getElem? (i := 784) (by decide +kernel), List.mem_of_getElem? (i := 883) (by decide +kernel), List.mem_of_getElem? (i := 884) (by decide +kernel)⟩
theorem lw_p28 : lw_okq (⟨"ImageGcdsModel", "made", "(I)I"⟩, 25) := ⟨⟨by decide +kernel, by decide +kernel⟩, List.mem_of_getElem? (i := 784) (by decide +kernel), List.mem_of_getElem? (i := 887) (by decide +kernel), List.mem_of_getElem? (i := 888) (by decide +kernel)⟩
theorem lw_p29 : lw_okq (⟨"ImageGcdsModel", "copy", "(II)V"⟩, 25) := ⟨⟨by decide +kernel, by decide +kernel⟩, List.mem_of_getElem? (i := 784) (by decide +kernel), List.mem_of_getElem? (i := 891) (by decide +kernel), List.mem_of_getElem? (i := 892) (by decide +kernel)⟩
theorem lw_p30 : lw_okq (⟨"ImageGcdsModel", "isPoly", "(I)Z"⟩, 25) := ⟨⟨by decide +kernel, by decide +kernel⟩, List.mem_of_getElem? (i := 784) (by decide +kernel), List.mem_of_getElem? (i := 899) (by decide +kernel), List.mem_of_getElem? (i := 900) (by decide +kernel)⟩
theorem lw_p31 : lw_okq (⟨"ImageGcdsModel", "areNot", "(II)Z"⟩, 25) := ⟨⟨by decide +kernel, by decide +kernel⟩, List.mem_of_getElem? (i := 784) (by decide +kernel), List.mem_of_getElem? (i := 914) (by decide +kernel), List.mem_of_getElem? (i := 915) (by decide +kernel)⟩
def lw_privs_2 : List (MethodName × Nat) := [(⟨"ImageGcds$Images", "search", "(ILImageGcds$Floor;[I)V"⟩, 5), (⟨"ImageGcds$Curve", "raise", "(II)V"⟩, 3), (⟨"ImageGcds$Curve", "multiplyProduct", "(I)V"⟩, 3), (⟨"ImageGcds", "requireLetter", "(I)V"⟩, 4), (⟨"ImageGcds", "requireLowResultant", "(LImageGcds$Poly;LImageGcds$Poly;I)V"⟩, 4), (⟨"ImageGcds$Bench", "spreadInFront", "(LImageGcds$Poly;I[I)V"⟩, 7), (⟨"ImageGcds$Images", "eliminate", "(I[I[I[I)V"⟩, 5), (⟨"ImageGcds$Bench", "gatheredBeside", "([II)LImageGcds$Poly;"⟩, 7), (⟨"ImageGcds$Bench", "divide", "([I[I[I)V"⟩, 7), (⟨"ImageGcdsModel", "isFull", "()Z"⟩, 25), (⟨"ImageGcdsModel", "fails", "(ZZZ)Z"⟩, 25), (⟨"ImageGcdsModel", "clear", "(I)V"⟩, 25), (⟨"ImageGcdsModel", "made", "(I)I"⟩, 25), (⟨"ImageGcdsModel", "copy", "(II)V"⟩, 25), (⟨"ImageGcdsModel", "isPoly", "(I)Z"⟩, 25), (⟨"ImageGcdsModel", "areNot", "(II)Z"⟩, 25)]
theorem lw_r2 : ∀ q ∈ lw_privs_2, lw_okq q := List.forall_mem_cons.mpr ⟨lw_p16, List.forall_mem_cons.mpr ⟨lw_p17, List.forall_mem_cons.mpr ⟨lw_p18, List.forall_mem_cons.mpr ⟨lw_p19, List.forall_mem_cons.mpr ⟨lw_p20, List.forall_mem_cons.mpr ⟨lw_p21, List.forall_mem_cons.mpr ⟨lw_p22, List.forall_mem_cons.mpr ⟨lw_p23, List.forall_mem_cons.mpr ⟨lw_p24, List.forall_mem_cons.mpr ⟨lw_p25, List.forall_mem_cons.mpr ⟨lw_p26, List.forall_mem_cons.mpr ⟨lw_p27, List.forall_mem_cons.mpr ⟨lw_p28, List.forall_mem_cons.mpr ⟨lw_p29, List.forall_mem_cons.mpr ⟨lw_p30, List.forall_mem_cons.mpr ⟨lw_p31, fun _ h => absurd h List.not_mem_nil⟩⟩⟩⟩⟩⟩⟩⟩⟩⟩⟩⟩⟩⟩⟩⟩
theorem lw_p32 : lw_okq (⟨"ImageGcdsModel", "fits", "(II)Z"⟩, 25) := ⟨⟨by decide +kernel, by decide +kernel⟩, List.mem_of_getElem? (i := 784) (by decide +kernel), List.mem_of_getElem? (i := 923) (by decide +kernel), List.mem_of_getElem? (i := 924) (by decide +kernel)⟩
theorem lw_p33 : lw_okq (⟨"ImageGcdsModel", "degreeOf", "(II)I"⟩, 25) := ⟨⟨by decide +kernel, by decide +kernel⟩, List.mem_of_getElem? (i := 784) (by decide +kernel), List.mem_of_getElem? (i := 927) (by decide +kernel), List.mem_of_getElem? (i := 928) (by decide +kernel)⟩
theorem lw_p34 : lw_okq (⟨"ImageGcdsModel", "isZero", "(I)Z"⟩, 25) := ⟨⟨by decide +kernel, by decide +kernel⟩, List.mem_of_getElem? (i := 784) (by decide +kernel), List.mem_of_getElem? (i := 934) (by decide +kernel), List.mem_of_getElem? (i := 935) (by decide +kernel)⟩
theorem lw_p35 : lw_okq (⟨"ImageGcdsModel", "head", "(I)I"⟩, 25) := ⟨⟨by decide +kernel, by decide +kernel⟩, List.mem_of_getElem? (i := 784) (by decide +kernel), List.mem_of_getElem? (i := 938) (by decide +kernel), List.mem_of_getElem? (i := 939) (by decide +kernel)⟩
theorem lw_p36 : lw_okq (⟨"ImageGcdsModel", "product", "(III)V"⟩, 25) := ⟨⟨by decide +kernel, by decide +kernel⟩, List.mem_of_getElem? (i := 784) (by decide +kernel), List.mem_of_getElem? (i := 945) (by decide +kernel), List.mem_of_getElem? (i := 946) (by decide +kernel)⟩
theorem lw_p37 : lw_okq (⟨"ImageGcdsModel", "divides", "(II)Z"⟩, 25) := ⟨⟨by decide +kernel, by decide +kernel⟩, List.mem_of_getElem? (i := 784) (by decide +kernel), List.mem_of_getElem? (i := 953) (by decide +kernel), List.mem_of_getElem? (i := 954) (by decide +kernel)⟩
theorem lw_p38 : lw_okq (⟨"ImageGcdsModel", "divisor", "(III)V"⟩, 25) := ⟨⟨by decide +kernel, by decide +kernel⟩, List.mem_of_getElem? (i := 784) (by decide +kernel), List.mem_of_getElem? (i := 963) (by decide +kernel), List.mem_of_getElem? (i := 964) (by decide +kernel)⟩
theorem lw_p39 : lw_okq (⟨"ImageGcdsModel", "clearTwo", "(I)V"⟩, 25) := ⟨⟨by decide +kernel, by decide +kernel⟩, List.mem_of_getElem? (i := 784) (by decide +kernel), List.mem_of_getElem? (i := 967) (by decide +kernel), List.mem_of_getElem? (i := 968) (by decide +kernel)⟩
theorem lw_p40 : lw_okq (⟨"ImageGcdsModel", "allOf", "(I)V"⟩, 25) := ⟨⟨by decide +kernel, by decide +kernel⟩, List.mem_of_getElem? (i := 784) (by decide +kernel), List.mem_of_getElem? (i := 971) (by decide +kernel), List.mem_of_getElem? (i := 972) (by decide +kernel)⟩
theorem lw_p41 : lw_okq (⟨"ImageGcdsModel", "isNumberTwo", "(I)Z"⟩, 25) := ⟨⟨by decide +kernel, by decide +kernel⟩, List.mem_of_getElem? (i := 784) (by decide +kernel), List.mem_of_getElem? (i := 975) (by decide +kernel), List.mem_of_getElem? (i := 976) (by decide +kernel)⟩
theorem lw_p42 : lw_okq (⟨"ImageGcdsModel", "degreeY", "(I)I"⟩, 25) := ⟨⟨by decide +kernel, by decide +kernel⟩, List.mem_of_getElem? (i := 784) (by decide +kernel), List.mem_of_getElem? (i := 979) (by decide +kernel), List.mem_of_getElem? (i := 980) (by decide +kernel)⟩
theorem lw_p43 : lw_okq (⟨"ImageGcdsModel", "degreeZ", "(I)I"⟩, 25) := ⟨⟨by decide +kernel, by decide +kernel⟩, List.mem_of_getElem? (i := 784) (by decide +kernel), List.mem_of_getElem? (i := 983) (by decide +kernel), List.mem_of_getElem? (i := 984) (by decide +kernel)⟩
theorem lw_p44 : lw_okq (⟨"ImageGcdsModel", "squareOf", "(III)V"⟩, 25) := ⟨⟨by decide +kernel, by decide +kernel⟩, List.mem_of_getElem? (i := 784) (by decide +kernel), List.mem_of_getElem? (i := 987) (by decide +kernel), List.mem_of_getElem? (i := 988) (by decide +kernel)⟩
theorem lw_p45 : lw_okq (⟨"ImageGcdsModel", "goOn", "()V"⟩, 25) := ⟨⟨by decide +kernel, by decide +kernel⟩, List.mem_of_getElem? (i := 784) (by decide +kernel), List.mem_of_getElem? (i := 991) (by decide +kernel), List.mem_of_getElem? (i := 992) (by decide +kernel)⟩
theorem lw_p46 : lw_okq (⟨"ImageGcdsModel", "copyTwo", "(II)V"⟩, 25) := ⟨⟨by decide +kernel, by decide +kernel⟩, List.mem_of_getElem? (i := 784) (by decide +kernel), List.mem_of_getElem? (i := 995) (by decide +kernel), List.mem_of_getElem? (i := 996) (by decide +kernel)⟩
theorem lw_p47 : lw_okq (⟨"ImageGcdsModel", "commonTwo", "()V"⟩, 25) := ⟨⟨by decide +kernel, by decide +kernel⟩, List.mem_of_getElem? (i := 784) (by decide +kernel), List.mem_of_getElem? (i := 999) (by decide +kernel), List.mem_of_getElem? (i := 1000) (by decide +kernel)⟩
def lw_privs_3 : List (MethodName × Nat) := [(⟨"ImageGcdsModel", "fits", "(II)Z"⟩, 25), (⟨"ImageGcdsModel", "degreeOf", "(II)I"⟩, 25), (⟨"ImageGcdsModel", "isZero", "(I)Z"⟩, 25), (⟨"ImageGcdsModel", "head", "(I)I"⟩, 25), (⟨"ImageGcdsModel", "product", "(III)V"⟩, 25), (⟨"ImageGcdsModel", "divides", "(II)Z"⟩, 25), (⟨"ImageGcdsModel", "divisor", "(III)V"⟩, 25), (⟨"ImageGcdsModel", "clearTwo", "(I)V"⟩, 25), (⟨"ImageGcdsModel", "allOf", "(I)V"⟩, 25), (⟨"ImageGcdsModel", "isNumberTwo", "(I)Z"⟩, 25), (⟨"ImageGcdsModel", "degreeY", "(I)I"⟩, 25), (⟨"ImageGcdsModel", "degreeZ", "(I)I"⟩, 25), (⟨"ImageGcdsModel", "squareOf", "(III)V"⟩, 25), (⟨"ImageGcdsModel", "goOn", "()V"⟩, 25), (⟨"ImageGcdsModel", "copyTwo", "(II)V"⟩, 25), (⟨"ImageGcdsModel", "commonTwo", "()V"⟩, 25)]
theorem lw_r3 : ∀ q ∈ lw_privs_3, lw_okq q := List.forall_mem_cons.mpr ⟨lw_p32, List.forall_mem_cons.mpr ⟨lw_p33, List.forall_mem_cons.mpr ⟨lw_p34, List.forall_mem_cons.mpr ⟨lw_p35, List.forall_mem_cons.mpr ⟨lw_p36, List.forall_mem_cons.mpr ⟨lw_p37, List.forall_mem_cons.mpr ⟨lw_p38, List.forall_mem_cons.mpr ⟨lw_p39, List.forall_mem_cons.mpr ⟨lw_p40, List.forall_mem_cons.mpr ⟨lw_p41, List.forall_mem_cons.mpr ⟨lw_p42, List.forall_mem_cons.mpr ⟨lw_p43, List.forall_mem_cons.mpr ⟨lw_p44, List.forall_mem_cons.mpr ⟨lw_p45, List.forall_mem_cons.mpr ⟨lw_p46, List.forall_mem_cons.mpr ⟨lw_p47, fun _ h => absurd h List.not_mem_nil⟩⟩⟩⟩⟩⟩⟩⟩⟩⟩⟩⟩⟩⟩⟩⟩
theorem lw_p48 : lw_okq (⟨"ImageGcdsModel", "images", "(I)Z"⟩, 25) := ⟨⟨by decide +kernel, by decide +kernel⟩, List.mem_of_getElem? (i := 784) (by decide +kernel), List.mem_of_getElem? (i := 1003) (by decide +kernel), List.mem_of_getElem? (i := 1004) (by decide +kernel)⟩
theorem lw_p49 : lw_okq (⟨"ImageGcdsModel", "rowDegree", "(II)I"⟩, 25) := ⟨⟨by decide +kernel, by decide +kernel⟩, List.mem_of_getElem? (i := 784) (by decide +kernel), List.mem_of_getElem? (i := 1007) (by decide +kernel), List.mem_of_getElem? (i := 1008) (by decide +kernel)⟩
theorem lw_p50 : lw_okq (⟨"ImageGcdsModel", "valueAt", "(III)I"⟩, 25) := ⟨⟨by decide +kernel, by decide +kernel⟩, List.mem_of_getElem? (i := 784) (by decide +kernel), List.mem_of_getElem? (i := 1011) (by decide +kernel), List.mem_of_getElem? (i := 1012) (by decide +kernel)⟩
theorem lw_p51 : lw_okq (⟨"ImageGcdsModel", "none", "()V"⟩, 25) := ⟨⟨by decide +kernel, by decide +kernel⟩, List.mem_of_getElem? (i := 784) (by decide +kernel), List.mem_of_getElem? (i := 1015) (by decide +kernel), List.mem_of_getElem? (i := 1016) (by decide +kernel)⟩
theorem lw_p52 : lw_okq (⟨"ImageGcdsModel", "common", "()V"⟩, 25) := ⟨⟨by decide +kernel, by decide +kernel⟩, List.mem_of_getElem? (i := 784) (by decide +kernel), List.mem_of_getElem? (i := 1019) (by decide +kernel), List.mem_of_getElem? (i := 1020) (by decide +kernel)⟩
theorem lw_p53 : lw_okq (⟨"ImageGcdsModel", "reduce", "()V"⟩, 25) := ⟨⟨by decide +kernel, by decide +kernel⟩, List.mem_of_getElem? (i := 784) (by decide +kernel), List.mem_of_getElem? (i := 1023) (by decide +kernel), List.mem_of_getElem? (i := 1024) (by decide +kernel)⟩
theorem lw_p54 : lw_okq (⟨"ImageGcdsModel", "trimA", "()V"⟩, 25) := ⟨⟨by decide +kernel, by decide +kernel⟩, List.mem_of_getElem? (i := 784) (by decide +kernel), List.mem_of_getElem? (i := 1027) (by decide +kernel), List.mem_of_getElem? (i := 1028) (by decide +kernel)⟩
theorem lw_p55 : lw_okq (⟨"ImageGcdsModel", "change", "()V"⟩, 25) := ⟨⟨by decide +kernel, by decide +kernel⟩, List.mem_of_getElem? (i := 784) (by decide +kernel), List.mem_of_getElem? (i := 1031) (by decide +kernel), List.mem_of_getElem? (i := 1032) (by decide +kernel)⟩
theorem lw_p56 : lw_okq (⟨"ImageGcdsModel", "together", "(I)V"⟩, 25) := ⟨⟨by decide +kernel, by decide +kernel⟩, List.mem_of_getElem? (i := 784) (by decide +kernel), List.mem_of_getElem? (i := 1035) (by decide +kernel), List.mem_of_getElem? (i := 1036) (by decide +kernel)⟩
theorem lw_p57 : lw_okq (⟨"ImageGcdsModel", "contentTo", "(I)V"⟩, 25) := ⟨⟨by decide +kernel, by decide +kernel⟩, List.mem_of_getElem? (i := 784) (by decide +kernel), List.mem_of_getElem? (i := 1039) (by decide +kernel), List.mem_of_getElem? (i := 1040) (by decide +kernel)⟩
theorem lw_p58 : lw_okq (⟨"ImageGcdsModel", "rowToB", "(II)V"⟩, 25) := ⟨⟨by decide +kernel, by decide +kernel⟩, List.mem_of_getElem? (i := 784) (by decide +kernel), List.mem_of_getElem? (i := 1043) (by decide +kernel), List.mem_of_getElem? (i := 1044) (by decide +kernel)⟩
theorem lw_p59 : lw_okq (⟨"ImageGcdsModel", "trimB", "()V"⟩, 25) := ⟨⟨by decide +kernel, by decide +kernel⟩, List.mem_of_getElem? (i := 784) (by decide +kernel), List.mem_of_getElem? (i := 1047) (by decide +kernel), List.mem_of_getElem? (i := 1048) (by decide +kernel)⟩
theorem lw_p60 : lw_okq (⟨"ImageGcdsModel", "withoutContent", "(I)V"⟩, 25) := ⟨⟨by decide +kernel, by decide +kernel⟩, List.mem_of_getElem? (i := 784) (by decide +kernel), List.mem_of_getElem? (i := 1051) (by decide +kernel), List.mem_of_getElem? (i := 1052) (by decide +kernel)⟩
theorem lw_p61 : lw_okq (⟨"ImageGcdsModel", "dividesTwo", "(II)Z"⟩, 25) := ⟨⟨by decide +kernel, by decide +kernel⟩, List.mem_of_getElem? (i := 784) (by decide +kernel), List.mem_of_getElem? (i := 1055) (by decide +kernel), List.mem_of_getElem? (i := 1056) (by decide +kernel)⟩
theorem lw_p62 : lw_okq (⟨"ImageGcdsModel", "withContent", "()V"⟩, 25) := ⟨⟨by decide +kernel, by decide +kernel⟩, List.mem_of_getElem? (i := 784) (by decide +kernel), List.mem_of_getElem? (i := 1059) (by decide +kernel), List.mem_of_getElem? (i := 1060) (by decide +kernel)⟩
theorem lw_p63 : lw_okq (⟨"ImageGcdsModel", "parts", "(III)Z"⟩, 25) := ⟨⟨by decide +kernel, by decide +kernel⟩, List.mem_of_getElem? (i := 784) (by decide +kernel), List.mem_of_getElem? (i := 1064) (by decide +kernel), List.mem_of_getElem? (i := 1065) (by decide +kernel)⟩
def lw_privs_4 : List (MethodName × Nat) := [(⟨"ImageGcdsModel", "images", "(I)Z"⟩, 25), (⟨"ImageGcdsModel", "rowDegree", "(II)I"⟩, 25), (⟨"ImageGcdsModel", "valueAt", "(III)I"⟩, 25), (⟨"ImageGcdsModel", "none", "()V"⟩, 25), (⟨"ImageGcdsModel", "common", "()V"⟩, 25), (⟨"ImageGcdsModel", "reduce", "()V"⟩, 25), (⟨"ImageGcdsModel", "trimA", "()V"⟩, 25), (⟨"ImageGcdsModel", "change", "()V"⟩, 25), (⟨"ImageGcdsModel", "together", "(I)V"⟩, 25), (⟨"ImageGcdsModel", "contentTo", "(I)V"⟩, 25), (⟨"ImageGcdsModel", "rowToB", "(II)V"⟩, 25), (⟨"ImageGcdsModel", "trimB", "()V"⟩, 25), (⟨"ImageGcdsModel", "withoutContent", "(I)V"⟩, 25), (⟨"ImageGcdsModel", "dividesTwo", "(II)Z"⟩, 25), (⟨"ImageGcdsModel", "withContent", "()V"⟩, 25), (⟨"ImageGcdsModel", "parts", "(III)Z"⟩, 25)]
theorem lw_r4 : ∀ q ∈ lw_privs_4, lw_okq q := List.forall_mem_cons.mpr ⟨lw_p48, List.forall_mem_cons.mpr ⟨lw_p49, List.forall_mem_cons.mpr ⟨lw_p50, List.forall_mem_cons.mpr ⟨lw_p51, List.forall_mem_cons.mpr ⟨lw_p52, List.forall_mem_cons.mpr ⟨lw_p53, List.forall_mem_cons.mpr ⟨lw_p54, List.forall_mem_cons.mpr ⟨lw_p55, List.forall_mem_cons.mpr ⟨lw_p56, List.forall_mem_cons.mpr ⟨lw_p57, List.forall_mem_cons.mpr ⟨lw_p58, List.forall_mem_cons.mpr ⟨lw_p59, List.forall_mem_cons.mpr ⟨lw_p60, List.forall_mem_cons.mpr ⟨lw_p61, List.forall_mem_cons.mpr ⟨lw_p62, List.forall_mem_cons.mpr ⟨lw_p63, fun _ h => absurd h List.not_mem_nil⟩⟩⟩⟩⟩⟩⟩⟩⟩⟩⟩⟩⟩⟩⟩⟩
theorem lw_p64 : lw_okq (⟨"ImageGcdsModel", "planes", "(III)V"⟩, 25) := ⟨⟨by decide +kernel, by decide +kernel⟩, List.mem_of_getElem? (i := 784) (by decide +kernel), List.mem_of_getElem? (i := 1068) (by decide +kernel), List.mem_of_getElem? (i := 1069) (by decide +kernel)⟩
theorem lw_p65 : lw_okq (⟨"ImageGcdsModel", "imageAt", "(IIIII)V"⟩, 25) := ⟨⟨by decide +kernel, by decide +kernel⟩, List.mem_of_getElem? (i := 784) (by decide +kernel), List.mem_of_getElem? (i := 1072) (by decide +kernel), List.mem_of_getElem? (i := 1073) (by decide +kernel)⟩
theorem lw_p66 : lw_okq (⟨"ImageGcdsModel", "valueOfPlane", "(ZII)I"⟩, 25) := ⟨⟨by decide +kernel, by decide +kernel⟩, List.mem_of_getElem? (i := 784) (by decide +kernel), List.mem_of_getElem? (i := 1076) (by decide +kernel), List.mem_of_getElem? (i := 1077) (by decide +kernel)⟩
theorem lw_p67 : lw_okq (⟨"ImageGcdsModel", "build", "(II)Z"⟩, 25) := ⟨⟨by decide +kernel, by decide +kernel⟩, List.mem_of_getElem? (i := 784) (by decide +kernel), List.mem_of_getElem? (i := 1080) (by decide +kernel), List.mem_of_getElem? (i := 1081) (by decide +kernel)⟩
theorem lw_p68 : lw_okq (⟨"ImageGcdsModel", "rowOfGrid", "(I)V"⟩, 25) := ⟨⟨by decide +kernel, by decide +kernel⟩, List.mem_of_getElem? (i := 784) (by decide +kernel), List.mem_of_getElem? (i := 1084) (by decide +kernel), List.mem_of_getElem? (i := 1085) (by decide +kernel)⟩
theorem lw_p69 : lw_okq (⟨"ImageGcdsModel", "monic", "(I)V"⟩, 25) := ⟨⟨by decide +kernel, by decide +kernel⟩, List.mem_of_getElem? (i := 784) (by decide +kernel), List.mem_of_getElem? (i := 1088) (by decide +kernel), List.mem_of_getElem? (i := 1089) (by decide +kernel)⟩
theorem lw_p70 : lw_okq (⟨"ImageGcdsModel", "isLetter", "(I)Z"⟩, 25) := ⟨⟨by decide +kernel, by decide +kernel⟩, List.mem_of_getElem? (i := 784) (by decide +kernel), List.mem_of_getElem? (i := 1096) (by decide +kernel), List.mem_of_getElem? (i := 1097) (by decide +kernel)⟩
theorem lw_p71 : lw_okq (⟨"ImageGcdsModel", "isTooHigh", "(III)Z"⟩, 25) := ⟨⟨by decide +kernel, by decide +kernel⟩, List.mem_of_getElem? (i := 784) (by decide +kernel), List.mem_of_getElem? (i := 1100) (by decide +kernel), List.mem_of_getElem? (i := 1101) (by decide +kernel)⟩
theorem lw_p72 : lw_okq (⟨"ImageGcdsModel", "bound", "(IIII)I"⟩, 25) := ⟨⟨by decide +kernel, by decide +kernel⟩, List.mem_of_getElem? (i := 784) (by decide +kernel), List.mem_of_getElem? (i := 1104) (by decide +kernel), List.mem_of_getElem? (i := 1105) (by decide +kernel)⟩
theorem lw_p73 : lw_okq (⟨"ImageGcdsModel", "atLeastNone", "(I)I"⟩, 25) := ⟨⟨by decide +kernel, by decide +kernel⟩, List.mem_of_getElem? (i := 784) (by decide +kernel), List.mem_of_getElem? (i := 1108) (by decide +kernel), List.mem_of_getElem? (i := 1109) (by decide +kernel)⟩
theorem lw_p74 : lw_okq (⟨"ImageGcdsModel", "resultantAt", "(IIIII)I"⟩, 25) := ⟨⟨by decide +kernel, by decide +kernel⟩, List.mem_of_getElem? (i := 784) (by decide +kernel), List.mem_of_getElem? (i := 1112) (by decide +kernel), List.mem_of_getElem? (i := 1113) (by decide +kernel)⟩
theorem lw_p75 : lw_okq (⟨"ImageGcdsModel", "valueOf", "(IIIII)I"⟩, 25) := ⟨⟨by decide +kernel, by decide +kernel⟩, List.mem_of_getElem? (i := 784) (by decide +kernel), List.mem_of_getElem? (i := 1116) (by decide +kernel), List.mem_of_getElem? (i := 1117) (by decide +kernel)⟩
theorem lw_p76 : lw_okq (⟨"ImageGcdsModel", "determinant", "(I)I"⟩, 25) := ⟨⟨by decide +kernel, by decide +kernel⟩, List.mem_of_getElem? (i := 784) (by decide +kernel), List.mem_of_getElem? (i := 1120) (by decide +kernel), List.mem_of_getElem? (i := 1121) (by decide +kernel)⟩
theorem lw_p77 : lw_okq (⟨"ImageGcdsModel", "slopeOf", "(III)V"⟩, 25) := ⟨⟨by decide +kernel, by decide +kernel⟩, List.mem_of_getElem? (i := 784) (by decide +kernel), List.mem_of_getElem? (i := 1128) (by decide +kernel), List.mem_of_getElem? (i := 1129) (by decide +kernel)⟩
theorem lw_p78 : lw_okq (⟨"ImageGcdsModel", "lower", "(II)V"⟩, 25) := ⟨⟨by decide +kernel, by decide +kernel⟩, List.mem_of_getElem? (i := 784) (by decide +kernel), List.mem_of_getElem? (i := 1141) (by decide +kernel), List.mem_of_getElem? (i := 1142) (by decide +kernel)⟩
theorem lw_p79 : lw_okq (⟨"ImageGcdsModel", "termsOf", "(I)I"⟩, 25) := ⟨⟨by decide +kernel, by decide +kernel⟩, List.mem_of_getElem? (i := 784) (by decide +kernel), List.mem_of_getElem? (i := 1157) (by decide +kernel), List.mem_of_getElem? (i := 1158) (by decide +kernel)⟩
def lw_privs_5 : List (MethodName × Nat) := [(⟨"ImageGcdsModel", "planes", "(III)V"⟩, 25), (⟨"ImageGcdsModel", "imageAt", "(IIIII)V"⟩, 25), (⟨"ImageGcdsModel", "valueOfPlane", "(ZII)I"⟩, 25), (⟨"ImageGcdsModel", "build", "(II)Z"⟩, 25), (⟨"ImageGcdsModel", "rowOfGrid", "(I)V"⟩, 25), (⟨"ImageGcdsModel", "monic", "(I)V"⟩, 25), (⟨"ImageGcdsModel", "isLetter", "(I)Z"⟩, 25), (⟨"ImageGcdsModel", "isTooHigh", "(III)Z"⟩, 25), (⟨"ImageGcdsModel", "bound", "(IIII)I"⟩, 25), (⟨"ImageGcdsModel", "atLeastNone", "(I)I"⟩, 25), (⟨"ImageGcdsModel", "resultantAt", "(IIIII)I"⟩, 25), (⟨"ImageGcdsModel", "valueOf", "(IIIII)I"⟩, 25), (⟨"ImageGcdsModel", "determinant", "(I)I"⟩, 25), (⟨"ImageGcdsModel", "slopeOf", "(III)V"⟩, 25), (⟨"ImageGcdsModel", "lower", "(II)V"⟩, 25), (⟨"ImageGcdsModel", "termsOf", "(I)I"⟩, 25)]
theorem lw_r5 : ∀ q ∈ lw_privs_5, lw_okq q := List.forall_mem_cons.mpr ⟨lw_p64, List.forall_mem_cons.mpr ⟨lw_p65, List.forall_mem_cons.mpr ⟨lw_p66, List.forall_mem_cons.mpr ⟨lw_p67, List.forall_mem_cons.mpr ⟨lw_p68, List.forall_mem_cons.mpr ⟨lw_p69, List.forall_mem_cons.mpr ⟨lw_p70, List.forall_mem_cons.mpr ⟨lw_p71, List.forall_mem_cons.mpr ⟨lw_p72, List.forall_mem_cons.mpr ⟨lw_p73, List.forall_mem_cons.mpr ⟨lw_p74, List.forall_mem_cons.mpr ⟨lw_p75, List.forall_mem_cons.mpr ⟨lw_p76, List.forall_mem_cons.mpr ⟨lw_p77, List.forall_mem_cons.mpr ⟨lw_p78, List.forall_mem_cons.mpr ⟨lw_p79, fun _ h => absurd h List.not_mem_nil⟩⟩⟩⟩⟩⟩⟩⟩⟩⟩⟩⟩⟩⟩⟩⟩
def lw_privs : List (MethodName × Nat) := lw_privs_1 ++ (lw_privs_2 ++ (lw_privs_3 ++ (lw_privs_4 ++ (lw_privs_5))))
def lw_tbl : List Cond := k2_sels lw_privs ++ tables_1
theorem lw_privs_ok : ∀ q ∈ lw_privs, lw_okq q := by
  show ∀ q ∈ lw_privs_1 ++ (lw_privs_2 ++ (lw_privs_3 ++ (lw_privs_4 ++ (lw_privs_5)))), lw_okq q
  exact List.forall_mem_append.mpr ⟨lw_r1, List.forall_mem_append.mpr ⟨lw_r2, List.forall_mem_append.mpr ⟨lw_r3, List.forall_mem_append.mpr ⟨lw_r4, lw_r5⟩⟩⟩⟩
-- ===== end of PART A; then your names; then what follows =====
end
section
/-! THROWS: a contract for a method that ends by throwing a new object of one class and writes nothing old; the row that throws it; a call of such a method, caught or not. -/
/-- at x of t's heap lies a plain object of the class C, as u's tables have it -/
def th_O (C : String) (u t : State) (x : Addr) : Prop := ∃ cell : Cell, t.heap[x]? = some cell ∧ cell.vm = .none ∧ u.vm.findClass C = some cell.cls
def th_E (C : String) (mc ms : Nat) (st : State) (o : Outcome) (t : State) : Prop :=
  ∃ x : Addr, o = .threw x ∧ th_O C st t x ∧ st.WarmedH t.vm ∧ st.sameButNew ({ t with vm := st.vm } : State) [] mc ms
def th_Met (l : Launch) (y : MethodName) (ws : List Cond) (rm : Room) (Pc : Array Value → State → Prop) (C : String) (mc ms : Nat) : Prop :=
  MetFree l y (headSpec ws rm) Pc (fun _ _ _ _ _ => True) (fun _ st o t => th_E C mc ms st o t)
def th_Q (below : List Frame) (C : String) (s : State) (mc ms : Nat) : State → Prop := fun t => ∃ o, t.status = .running ∧ Ended t below o ∧ th_E C mc ms s o t
theorem th_ofW {l : Launch} {y : MethodName} {ws ws' : List Cond} {rm : Room} {Pc : Array Value → State → Prop} {C : String} {mc ms : Nat} {cc : ByteArray} {maxL : Nat} {ret : Option FieldType}
    (hy : plainName y.cls = true) (hw : ws = Cond.code y cc maxL ret :: ws')
    (body : ∀ p e s m args below meth c s₁, BodyLoose p l y (headSpec ws rm) cc maxL ret e s m args below meth c s₁ → c.maxLocals = maxL → c.exceptionTable.toList = [] → Pc args s →
      W p l e (headSpec ws rm).room s m args below meth c s.heap [] 0 0 (th_Q below C s mc ms) (entryFrame m args maxL)) : th_Met l y ws rm Pc C mc ms := by
  refine MetFree.of_bodyS (code := cc) (maxLocals := maxL) (ret := ret) hy ?_ ?_
  · intro args s m h hn
    obtain ⟨meth, c, h1, h2, h3, h4, h5, h6, -, -⟩ := Cond.code_spec hn (atoms_spec (ws := ws) h _ (by rw [hw]; exact List.mem_cons_self))
    exact ⟨meth, c, h1, h2, h3, h4, h5, h6⟩
  · intro p e s m args below meth c s₁ B hml hP _
    have hh0 : s₁.heap = s.heap := by rw [B.state]; rfl
    have hno : c.exceptionTable.isEmpty = true := B.noHandlers (atoms_spec (ws := ws) B.pre _ (by rw [hw]; exact List.mem_cons_self))
    have hno2 : c.exceptionTable.toList = [] := by simpa using hno
    obtain ⟨t, a1, o, b1, b2, b3⟩ := body p e s m args below meth c s₁ B hml hno2 hP s₁ hh0 (Stand.of_body B)
    exact ⟨t, o, a1, b1, b2, b3⟩
section TH
variable {p : Program} {l : Launch} {e : Env} {R : Room} {s : State} {m : MethodId} {args : Array Value} {below : List Frame} {meth : Method} {c : Code} {H : Heap} {locs : List Loc} {cells slots : Nat} {Q : State → Prop}
theorem th_off (hl : l.stackTraces = false) (ha : l.admits e) : e.platform.stackTraces = false := by
  rw [ha.platform]; exact hl
/-- from the constructor's call to the end: the object is made, and thrown -/
theorem th_throw {cc : ByteArray} {nL : Nat} (hexec : p.tables.exec = Jvm.exec) (hb : c.code = cc) (hml : c.maxLocals = nL) (htr : l.stackTraces = false) (hno : c.exceptionTable.toList = [])
    {own cls : String} {names : List String} {ic : Nat} (hown : s.vm.findClass own = some m.cls) (hcls : Bundle.fit cls = true) (hnames : ∀ n ∈ names, Bundle.fit n = true)
    (h : ∀ a ∈ Bundle.ownAtoms own ic cls names, a.before args s = true) {a : Addr} {cX : ClassId} {kX : Class} (hfX : s.vm.findClass cls = some cX) (hkX : s.vm.classes[cX]? = some kX)
    (hcell : H[a]? = some (blank cX kX)) (hnew : s.heap.size ≤ a) {b pc : Nat} {ls : Array Slot} (hsz : ls.size = nL)
    (hd6 : decode cc pc = .ok (.invokespecial ic, 3)) (hd9 : decode cc (pc + 3) = .ok (.athrow, 1)) (hRf : names.length + 3 < R.frames) (hRl : 13 * (names.length + 1) + 43 ≤ R.locals) (hlocks : meth.locks = false) :
    W p l e R s m args below meth c H [] cells slots (th_Q below cls s cells slots) (F0 m pc ls [.ref b, .ref a, .ref a]) := by
  intro T hT X
  obtain ⟨U, h1, h2, h3, h4, h5, ce, h6, h7⟩ := X.ctorThrowS hexec (th_off htr X.admits) hown hcls hnames h (fun x hx => by cases hx) hfX hkX (by rw [hT]; exact hcell) hnew (msg := .ref b) rfl
    (g := F0 m pc ls [.ref b, .ref a, .ref a]) rfl (by rw [hml]; exact hsz) rfl rfl (rest := []) rfl (by rw [hb]; exact hd6) (by rw [hb]; exact hd9) (fun x hx => by rw [hno] at hx; cases hx) hRf
    (by
      have e0 : (F0 m pc ls [.ref b, .ref a, .ref a]).monitorRoom = 0 := rfl
      simp only [e0, List.map_cons, List.map_nil, List.sum_cons, List.sum_nil, Value.category]
      omega) hlocks
  exact ⟨U, h1, .threw a, h2, h3, a, rfl, ⟨ce, h6, h7.vm, h7.cls⟩, h4, h5⟩
/-- throw new X("..") from its first instruction -/
theorem th_new {cc : ByteArray} {nL : Nat} (hexec : p.tables.exec = Jvm.exec) (hb : c.code = cc) (hml : c.maxLocals = nL) (htr : l.stackTraces = false) (hno : c.exceptionTable.toList = [])
    {own cls tx : String} {names : List String} {ic ix ik b : Nat} (hown : s.vm.findClass own = some m.cls) (hcls : Bundle.fit cls = true) (hnames : ∀ n ∈ names, Bundle.fit n = true)
    (h : ∀ a ∈ Bundle.ownAtoms own ic cls names, a.before args s = true) (hcl : (Cond.classLink own ix cls).before args s = true) (hins : (Cond.instantiable cls 6).before args s = true) (hini : (Cond.initialized cls).before args s = true)
    (hZ : vk_R own ik tx b s) (hH : s.heap.size ≤ H.size) {pc : Nat} {ls : Array Slot} (hsz : ls.size = nL)
    (hd0 : decode cc pc = .ok (.new ix, 3)) (hd3 : decode cc (pc + 3) = .ok (.dup, 1)) (hd4 : decode cc (pc + 4) = .ok (.ldc ik, 2)) (hd6 : decode cc (pc + 6) = .ok (.invokespecial ic, 3)) (hd9 : decode cc (pc + 9) = .ok (.athrow, 1))
    (hc : cells + 1 ≤ R.cells) (hs : slots + 6 ≤ R.slots) (hRf : names.length + 3 < R.frames) (hRl : 13 * (names.length + 1) + 43 ≤ R.locals) (hlocks : meth.locks = false) :
    W p l e R s m args below meth c H [] cells slots (th_Q below cls s (cells + 1) (slots + 6)) (F0 m pc ls []) := by
  obtain ⟨cX, hfX⟩ : ∃ cX, s.vm.findClass cls = some cX := by
    obtain ⟨c1, k1, hc1, -⟩ := Cond.instantiable_spec hins
    exact ⟨c1, hc1⟩
  refine W.newcK hexec hb hown hcl hins hini (g := F0 m pc ls []) rfl hd0 hc hs hfX rfl fun H1 kX hkX e1 z1 o1 => ?_
  refine W.eq (g2 := F0 m (pc + 3) ls [.ref H.size]) rfl ?_
  refine lv_dup hexec hb hd3 rfl ?_
  refine va_ldcS hexec hb hown hZ hd4 ?_
  exact th_throw hexec hb hml htr hno hown hcls hnames h hfX hkX e1 hH hsz hd6 hd9 hRf hRl hlocks
end TH
end
section
/-! A CALL OF A METHOD THAT THROWS -/
theorem th_old {T V : State} {k n : Nat} (h : T.sameButNew V [] k n) : T.heap.size ≤ V.heap.size ∧ ∀ q : Nat, q < T.heap.size → V.heap[q]? = T.heap[q]? := by
  obtain ⟨-, h2, -, -, -, h6⟩ := h
  refine ⟨h2, fun q hq => ?_⟩
  have hc : T.heap[q]? = some T.heap[q] := Array.getElem?_eq_getElem hq
  obtain ⟨c', e1, e2, -, e4⟩ := h6 q _ hc
  have hsl : c'.slots = T.heap[q].slots := Array.ext_getElem? fun i => e4 i (by simp)
  rw [e1, hc, e2, hsl]
section THC
variable {p : Program} {l : Launch} {e : Env} {R : Room} {s : State} {m : MethodId} {args : Array Value} {below : List Frame} {meth : Method} {c : Code} {T : State} {H : Heap} {locs : List Loc} {cells slots : Nat} {Q : State → Prop}
  {y : MethodName} {bytes cc : ByteArray} {maxL nL mc ms n index : Nat} {ret : Option FieldType} {ws Ts : List Cond} {rm : Room} {Pc : Array Value → State → Prop} {C own D : String} {b : Addr} {As rest : List Value} {g : JFrame}
theorem th_into (X : Stand p l e R s m args below meth c T locs cells slots) (hM : th_Met l y ws rm Pc D mc ms) (hbl : FrameBlind Pc) (hrc : rm.cells = mc) (hrs : rm.slots = ms)
    (hfr : rm.frames + 1 ≤ R.frames) (hlo : 8 + (maxL + 11) + rm.locals ≤ R.locals) {a : Array Value} (hws : ∀ w ∈ ws, w.before a T = true) (hcode : Cond.code y bytes maxL ret ∈ ws) (hini : (Cond.initialized y.cls).before a T = true)
    (hg : g.method = m) (hsize : g.locals.size = c.maxLocals) {ig : Instr} {len : Nat} (hdg : decode c.code g.pc = .ok (ig, len)) (hW : 2 * g.monitorRoom + (g.stack.map fun v => v.category).sum ≤ 8)
    {mk : MethodId} (hn : T.methodNamed? y = some mk) (hf : cells + mc ≤ R.cells ∧ slots + ms ≤ R.slots) (hPc : Pc a T) :
    ∃ (x : Addr) (T' : State), Stand p l e R s m args below meth c T' locs (cells + mc) (slots + ms) ∧ (T.heap.size ≤ T'.heap.size ∧ ∀ q : Nat, q < T.heap.size → T'.heap[q]? = T.heap[q]?) ∧ th_O D s T' x ∧
      Steps p.tables e below (doInvoke e (T.setTop g) [] mk a).1 ((T'.setTop g).pushFrame (.throwing x)) := by
  subst hrc; subst hrs
  obtain ⟨methY, cY, hmY, hcY, -, hlY, -, -, -, -⟩ := Cond.code_spec hn (hws _ hcode)
  obtain ⟨kY, hkY, -⟩ := className_of_methodNamed hn
  have hinitY : kY.init = .initialized := Cond.initialized_spec (findClass_of_methodNamed hn) hkY hini
  have h : At T g.method c below := by rw [hg]; exact X.here
  have happ : (headSpec ws rm).appliesLoose y e.platform (T.calling g mk a) = true :=
    Spec.appliesLoose_calling (g := g) h hdg hn hkY hinitY (X.room_calling (g := g) (R' := (headSpec ws rm).room) hsize hmY hcY hfr (by rw [hlY]; show _ + (maxL + 11) + rm.locals ≤ _; omega) hf.1 hf.2) (atoms_intro hws)
  obtain ⟨mid, hmid⟩ := h.above
  have hfr2 : (T.setTop g).frames = (.java g :: mid) ++ below := by rw [State.frames_setTop' g h.top, hmid]; rfl
  obtain ⟨o, s₂, hsteps, -, hend, x, rfl, ⟨cell, hO1, hO2, hO3⟩, hW₂, hsame⟩ := Steps.callFree hM p X.admits X.cas X.clock (acts := []) hfr2 happ (hbl _ _ _ _ hPc) trivial
  rw [State.frames_setTop' g h.top, X.tail] at hend
  obtain ⟨T', X', hW', hB, ht⟩ := X.outOfThrown hg hend hW₂ hsame
  rw [List.append_nil] at X'
  have hold := th_old hB
  rw [State.heap_setVm] at hold
  refine ⟨x, T', X', hold, ⟨cell, ?_, hO2, ?_⟩, ?_⟩
  · rw [ht, Stand.throwing_heap] at hO1; exact hO1
  · rw [← X.warmed.alike.findClass]; exact hO3
  · rw [← ht]; exact hsteps
/-- a call comes back thrown -/
def th_Run (p : Program) (l : Launch) (e : Env) (R : Room) (s : State) (m : MethodId) (args : Array Value) (below : List Frame) (meth : Method) (c : Code) (H : Heap) (locs : List Loc) (cells slots mc ms : Nat) (g : JFrame) (rest : List Value) (D : String) : Prop :=
  ∀ T : State, T.heap = H → Stand p l e R s m args below meth c T locs cells slots → ∃ (x : Addr) (T' : State), Stand p l e R s m args below meth c T' locs (cells + mc) (slots + ms) ∧ (H.size ≤ T'.heap.size ∧ ∀ q : Nat, q < H.size → T'.heap[q]? = H[q]?) ∧ th_O D s T' x ∧
    ∀ target, Steps p.tables e below ((T'.setTop { g with stack := rest }).pushFrame (.throwing x)) target → Steps p.tables e below (T.setTop g) target
theorem th_runV (S : CallFix p m c cc nL s args Ts own) (hM : th_Met l y ws rm Pc D mc ms) (cw : CallW R s args own C index y bytes maxL ret ws rm mc ms n) (hp : PreV s H C b Pc As)
    (hg : g.method = m) (hn : As.length = n) (hsize : g.locals.size = nL) (hstack : g.stack = As.reverse ++ .ref b :: rest) (hW : 2 * g.monitorRoom + (rest.map fun v => v.category).sum ≤ 8) (hdg : decode cc g.pc = .ok (.invokevirtual index, 3)) (hf : cells + mc ≤ R.cells ∧ slots + ms ≤ R.slots) :
    th_Run p l e R s m args below meth c H locs cells slots mc ms g rest D := by
  obtain ⟨⟨hrc, hrs, hfr, hlo, hws, hcw, hcode, hini, hy, hlen, hl⟩, hin, hse⟩ := cw
  obtain ⟨hx, hb, hml, ho, -⟩ := S
  obtain ⟨hbl, ⟨cellB, hcB, hoB, hclB⟩, hPc⟩ := hp
  intro T hT X
  obtain ⟨mk, methM, hnamed, hmethM, hstM, habM⟩ := Cond.instanceMethod_spec hin
  obtain ⟨methM', cM, hmethM', -, -, -, -, -, -, hsigM⟩ := Cond.code_spec hnamed hcode
  cases hmethM.symm.trans hmethM'
  obtain ⟨c2, r2, m2, q1, q2, q3, q4, kP, hkP, hkPi⟩ := Cond.selects_spec hse
  cases hclB.symm.trans q1
  cases (State.methodFound?_of_named hnamed hy).symm.trans q2
  cases hnamed.symm.trans q3
  have hselP : selectMethod e.platform s.vm cellB.cls mk = .method mk := by rw [Launch.admits_selectMethod X.admits]; exact q4
  obtain ⟨vm₁, X₁, hstep₁⟩ := X.invokevirtual hx ho hl hnamed hmethM hstM hkP hkPi hy (a := b) (cell := cellB) (by rw [hT]; exact hcB)
    (fun z h => by rw [h] at hoB; cases hoB) hselP hmethM habM hkP hkPi (g := g) hg (argsL := As) (rest := rest) (hn.trans (hlen _ hsigM)) hstack (by rw [hb]; exact hdg)
  obtain ⟨x, T', X', hold, hO, hsteps⟩ := th_into X₁ hM hbl hrc hrs hfr hlo (a := (Value.ref b :: As).toArray) (fun w hw => hws w hw _ _ X₁.warmed) hcw
    (word_at X₁.warmed (Or.inl (by first | rfl | simp [Cond.onTables, Cond.keeps, Cond.steady])) hini) (g := { g with stack := rest }) hg (hsize.trans hml.symm) (ig := .invokevirtual index) (len := 3) (by rw [hb]; exact hdg) hW (X₁.named hnamed) hf (hPc (T.setVm vm₁) hT X₁.warmed)
  refine ⟨x, T', X', by rw [← hT]; exact hold, hO, fun target h => hstep₁ _ fun acts => ?_⟩
  rw [doInvoke_state]; exact hsteps.trans h
/-- nothing catches it here: the caller throws it on -/
theorem th_up (hno : c.exceptionTable.toList = []) (hg : g.method = m) (hlocked : g.locked = none) (hentered : g.entered = []) (hlocks : meth.locks = false)
    (r : th_Run p l e R s m args below meth c H [] cells slots mc ms g rest D) : W p l e R s m args below meth c H [] cells slots (th_Q below D s (cells + mc) (slots + ms)) g := by
  intro T hT X
  obtain ⟨x, T', X', hold, ⟨cell, hO1, hO2, hO3⟩, st⟩ := r T hT X
  obtain ⟨h1, h2, h3, h4, h5⟩ := X'.leaveThrown x (g := { g with stack := rest }) hg hlocked hentered (fun z hz => by rw [hno] at hz; cases hz) hlocks
  exact ⟨_, st _ h1, .threw x, h2, h3, x, rfl, ⟨cell, hO1, hO2, hO3⟩, h4, h5⟩
end THC
end
section
/-! CAUGHT: the first row of the table covers the call and names the class that was thrown, its entry open or resolved -/
def th_Fi (e : Env) (u : State) (f : JFrame) (a : Addr) (h : Handler) (v : Vm) : Prop :=
  ∀ (Q : Handler → Pre) (E : CtlPost) (d : Bool) (acts : List Action), wp (findHandler f a) Q E e d acts u ↔ Q h d acts (u.setVm v)
theorem th_find {e : Env} {u : State} {f : JFrame} {a : Addr} {meth : Method} {cd : Code} (hm : u.vm.method? f.method = some meth) (hc : meth.code = some cd) {x : ExceptionTableEntry} {rest : List ExceptionTableEntry}
    (htab : cd.exceptionTable.toList = x :: rest) (hx : covers x f.pc = true) (h0 : x.catchType ≠ 0) {k : ClassId} {cell : Cell} (hl : u.vm.ClassLinks e.platform f.method.cls x.catchType k) (hcell : u.heap[a]? = some cell) (hobj : cell.vm = .none)
    (hk : ∃ q, u.vm.classes[k]? = some q) (heq : cell.cls = k) : th_Fi e u f a (.found x.handlerPc) (u.vm.noted f.method.cls x.catchType (.cls k)) := by
  intro Q E d acts
  obtain ⟨ha, ht⟩ := (resolveClass_links e.toSetting hl).op (op := VmOp.resolveClass f.method.cls x.catchType) rfl
  have hal : u.vm.Alike (u.vm.noted f.method.cls x.catchType (.cls k)) := (Vm.Alike.refl u.vm).noted _ _ _
  obtain ⟨q1, hq1⟩ := hk
  obtain ⟨q2, hq2, -⟩ := hal.2.2 _ _ hq1
  subst heq
  have hfit : (u.vm.noted f.method.cls x.catchType (.cls cell.cls)).assignable cell.cls cell.cls = true := va_asg _ _
  have hob : ∀ z, cell.vm ≠ .statics z := fun z hz => by rw [hobj] at hz; cases hz
  simp only [covers] at hx
  rw [W.findHandler_eq hm hc, htab]
  simp [findHandler.go, hx, h0, ha, ht, hcell, hob, hq2, hfit, VmOp.dirties, VmOp.acts]
theorem th_step {e : Env} {u : State} {f : JFrame} {a : Addr} {r : List Frame} {pc : Nat} {v : Vm} (h : th_Fi e u f a (.found pc) v) :
    (stepThrowing e u a (.java f :: r)).1 = (u.setVm v).setFrames (.java { f with pc := pc, stack := [.ref a] } :: r) := by
  simp only [stepThrowing, searchFrame, vmDo]
  generalize hr : Sem.go _ e false [] u = res
  obtain ⟨as, rfl, ha⟩ := Sem.eq_ok_of hr (a := Handler.found pc) (s' := u.setVm v) (acts' := []) (by simp [h _ _ _ _])
  rfl
section THK
variable {p : Program} {l : Launch} {e : Env} {R : Room} {s : State} {m : MethodId} {args : Array Value} {below : List Frame} {meth : Method} {c : Code} {H : Heap} {locs : List Loc} {cells slots mc ms : Nat} {Q : State → Prop} {D own : String} {rest : List Value} {g : JFrame}
theorem th_catch {x : ExceptionTableEntry} {xs : List ExceptionTableEntry} (htab : c.exceptionTable.toList = x :: xs) (hx : covers x g.pc = true) (h0 : x.catchType ≠ 0) (hg : g.method = m) (hown : s.vm.findClass own = some m.cls)
    (hlink : (Cond.classLink own x.catchType D).before args s = true) (r : th_Run p l e R s m args below meth c H locs cells slots mc ms g rest D)
    (kk : ∀ (a : Addr) (H1 : Heap), H.size ≤ H1.size → (∀ q : Nat, q < H.size → H1[q]? = H[q]?) → W p l e R s m args below meth c H1 locs (cells + mc) (slots + ms) Q { g with pc := x.handlerPc, stack := [.ref a] }) :
    W p l e R s m args below meth c H locs cells slots Q g := by
  intro T hT X
  obtain ⟨a, T', X', hold, ⟨cell, hO1, hO2, hO3⟩, st⟩ := r T hT X
  have hpl : e.platform.magicAccessors = ({} : Platform).magicAccessors := by rw [X.admits.platform]
  obtain ⟨k, hk, hcl⟩ := Cond.classLink_spec hown hlink e.platform hpl
  have hkc : cell.cls = k := Option.some.inj (hO3.symm.trans hk)
  obtain ⟨dk, _, _, kt, hd, _, _, _, _, hkt, _, hopen⟩ := hcl.here
  have hcl₀ := X'.warmed.classLinks hcl
  have hW2 : s.WarmedH (T'.vm.noted m.cls x.catchType (.cls k)) := X'.warmed.noted hd hopen (State.rightAt_cls hcl)
  obtain ⟨kt', hkt', -⟩ := X'.warmed.alike.2.2 _ _ hkt
  have X2 := X'.noted hW2
  obtain ⟨t, a1, b1⟩ := kk a T'.heap hold.1 hold.2 (T'.setVm (T'.vm.noted m.cls x.catchType (.cls k))) rfl X2
  refine ⟨t, st t ?_, b1⟩
  subst hg
  have h : At T' g.method c below := X'.here
  obtain ⟨hgo, hw⟩ := At.throwing (g := { g with stack := rest }) h a
  refine Steps.head hgo hw ?_
  rw [stepThread_throwing (frames_entered h.top _), th_step (th_find (u := (T'.setTop { g with stack := rest }).pushFrame (.throwing a)) (meth := meth) (cd := c) (f := { g with stack := rest }) X'.method' X'.code htab hx h0 hcl₀ hO1 hO2 ⟨kt', hkt'⟩ hkc)]
  obtain ⟨g₀, hg₀⟩ := Option.isSome_iff_exists.mp h.top
  obtain ⟨rr, hr⟩ := State.topJava?_eq_some.mp hg₀
  have hr2 : (T'.setVm (T'.vm.noted g.method.cls x.catchType (.cls k))).frames = .java g₀ :: rr := hr
  rw [State.setTop_of_frames _ hr2] at a1
  have hfin : ∀ (u : State) (v : Vm) (F G : List Frame), ((u.setFrames F).setVm v).setFrames G = (u.setVm v).setFrames G := fun u v F G => by
    rw [show (u.setFrames F).setVm v = (u.setVm v).setFrames F from rfl, State.setFrames_setFrames]
  rw [hr, List.tail_cons, State.pushFrame, State.setTop_of_frames _ hr, State.setFrames_setFrames, hfin]
  exact a1
end THK
/-- the table of a method whose word is 'codeWith' -/
theorem th_table {p : Program} {l : Launch} {e : Env} {s : State} {m : MethodId} {args : Array Value} {below : List Frame} {meth : Method} {c : Code} {s₁ : State} {y : MethodName} {ws ws' : List Cond} {rm : Room} {cc : ByteArray} {maxL : Nat} {ret : Option FieldType} {hh : List (Nat × Nat × Nat × Nat)}
    (B : BodyLoose p l y (headSpec ws rm) cc maxL ret e s m args below meth c s₁) (hw : ws = Cond.codeWith y cc maxL ret hh :: ws') : c.exceptionTable.toList = tableOf hh := by
  obtain ⟨m9, meth9, c9, hn9, h1, h2, h3, h4, h5, -⟩ := Cond.codeWith_spec (atoms_spec (ws := ws) B.pre _ (by rw [hw]; exact List.mem_cons_self))
  cases B.named.symm.trans hn9
  cases B.method.symm.trans h1
  cases (Stand.of_body B).code.symm.trans h2
  rw [← h5, table_eq]
section THS
variable {p : Program} {l : Launch} {e : Env} {R : Room} {s : State} {m : MethodId} {args : Array Value} {below : List Frame} {meth : Method} {c : Code} {H : Heap} {locs : List Loc} {cells slots : Nat} {Q : State → Prop}
/-- what a call of a static method with a table asks -/
def th_CS (R : Room) (s : State) (args : Array Value) (own : String) (index : Nat) (y : MethodName) (bytes : ByteArray) (maxL : Nat) (ret : Option FieldType) (hh : List (Nat × Nat × Nat × Nat)) (ws : List Cond) (rm : Room) (mc ms n : Nat) : Prop :=
  (rm.cells = mc ∧ rm.slots = ms ∧ rm.frames + 1 ≤ R.frames ∧ 8 + (maxL + 11) + rm.locals ≤ R.locals ∧ (∀ w ∈ ws, ∀ (a' : Array Value) (U : State), s.WarmedH U.vm → w.before a' U = true) ∧ Cond.codeWith y bytes maxL ret hh ∈ ws) ∧
  (Cond.codeWith y bytes maxL ret hh).before args s = true ∧ (Cond.initialized y.cls).before args s = true ∧ (y.cls ≠ "java/lang/invoke/MethodHandle" ∧ y.cls ≠ "java/lang/invoke/VarHandle") ∧ (∀ sig, parseMethodDescriptor y.desc = some sig → n = sig.parameters.length) ∧ (Cond.methodLink own index y).before args s = true ∧ (Cond.static y).before args s = true
theorem th_cs {own : String} {index maxL mc ms : Nat} {y : MethodName} {bytes : ByteArray} {ret : Option FieldType} {hh : List (Nat × Nat × Nat × Nat)} {Ts ws ws' : List Cond} {rm : Room} (n : Nat) (ht : ∀ w ∈ Ts, w.before args s = true) (hT : GoodIn Ts (va_wsS own index y ws)) (hw : ws = Cond.codeWith y bytes maxL ret hh :: ws') (hrc : rm.cells = mc) (hrs : rm.slots = ms)
    (hd : y.cls ≠ "java/lang/invoke/MethodHandle" ∧ y.cls ≠ "java/lang/invoke/VarHandle" ∧ (parseMethodDescriptor y.desc).map (fun d => d.parameters.length) = some n) (hR : rm.frames + 1 ≤ R.frames ∧ 8 + (maxL + 11) + rm.locals ≤ R.locals) : th_CS R s args own index y bytes maxL ret hh ws rm mc ms n := by
  have ok : ∀ w ∈ va_wsS own index y ws, w.before args s = true := fun w h => ht w (hT w h).1
  have hG : GoodIn Ts ws := fun w h => hT w (by unfold va_wsS; exact List.mem_append_right _ h)
  have hc : Cond.codeWith y bytes maxL ret hh ∈ ws := by rw [hw]; exact List.mem_cons_self
  refine ⟨⟨hrc, hrs, hR.1, hR.2, pay_in ht hG, hc⟩, ht _ (hG _ hc).1, ok _ (by simp [va_wsS]), ⟨hd.1, hd.2.1⟩, fun sig h => ?_, ok _ (by simp [va_wsS]), ok _ (by simp [va_wsS])⟩
  have h2 := hd.2.2
  rw [h] at h2
  exact (Option.some.inj h2).symm
theorem th_runS {y : MethodName} {bytes cc : ByteArray} {maxL nL mc ms n index : Nat} {ret : Option FieldType} {hh : List (Nat × Nat × Nat × Nat)} {ws : List Cond} {rm : Room} {Pc : Array Value → State → Prop} {Qc : Array Value → State → Outcome → State → Prop} {free : Addr → Prop} {Ts : List Cond} {own : String} {As rest : List Value} {g : JFrame}
    (S : CallFix p m c cc nL s args Ts own) (hM : Met l y ws rm Pc Qc mc ms free) (cw : th_CS R s args own index y bytes maxL ret hh ws rm mc ms n) (hp : PreS s H Pc As)
    (hg : g.method = m) (hn : As.length = n) (hsize : g.locals.size = nL) (hstack : g.stack = As.reverse ++ rest) (hW : 2 * g.monitorRoom + (rest.map fun v => v.category).sum ≤ 8) (hdg : decode cc g.pc = .ok (.invokestatic index, 3)) (hf : cells + mc ≤ R.cells ∧ slots + ms ≤ R.slots) :
    va_Run p l e R s m args below meth c H locs cells slots mc ms g rest (Qc As.toArray) free := by
  obtain ⟨⟨hrc, hrs, hfr, hlo, hws, hcw⟩, hcode, hini, hy, hlen, hl, hst⟩ := cw
  have hK : Back l R p e below s args y 3 8 (PreOf R mc ms Pc) (PostOf Qc mc ms free) := va_backW (hh := hh) (bytes := bytes) (maxL := maxL) (ret := ret) hM hp.1 hrc hrs hfr hlo hws hcw (fun a' U hW => word_at hW (Or.inl (by first | rfl | simp [Cond.onTables, Cond.keeps, Cond.steady])) hini)
  obtain ⟨hx, hb, hml, ho, -⟩ := S
  intro T hT X
  obtain ⟨mk, methM, cM, hnamed, hmethM, -, -, -, -, -, -, hsigM⟩ := Cond.codeWith_spec hcode
  have hstatic : methM.isStatic = true := Cond.static_spec hnamed hmethM hst
  obtain ⟨kP, hkP, -⟩ := className_of_methodNamed hnamed
  have hinitP : kP.init = .initialized := Cond.initialized_spec (findClass_of_methodNamed hnamed) hkP hini
  obtain ⟨vm₁, X₁, hstep₁⟩ := X.invokestatic hx ho hl hnamed hmethM hstatic hkP hinitP hy (g := g) hg (argsL := As) (rest := rest) (hn.trans (hlen _ hsigM)) hstack (by rw [hb]; exact hdg)
  obtain ⟨v, ⟨U', l2, c2, s2⟩, X', ⟨g', mk', t, L, e1, e2, hq, h1, hL, h2, h3⟩, hsteps⟩ := hK m meth c ⟨T.setVm vm₁, locs, cells, slots⟩ { g with stack := rest } (.invokestatic index) mk As.toArray X₁ hg (hsize.trans hml.symm) (by rw [hb]; exact hdg) hW (X₁.named hnamed) ⟨hf.1, hf.2, hp.2 (T.setVm vm₁) hT X₁.warmed⟩
  dsimp only [Pt.U, Pt.locs, Pt.cells, Pt.slots] at X' e1 e2 h1 h2 h3 hsteps
  subst h1; subst h2; subst h3
  exact ⟨v, (T.setVm vm₁).calling g' mk' As.toArray, t, U', L, hT, X', hL, e1, e2, hq, fun target h => hstep₁ _ fun acts => by rw [doInvoke_state]; exact hsteps.trans h⟩
end THS
end
section
/-! WHAT A THROW ASKS OF THE HEAP: Throwable's two statics, each null or a reference
-/
def th_L (C n d : String) (U : State) : Prop := ∃ (c : ClassId) (k : Class) (i : Nat) (f : Field) (a : Nat) (cell : Cell) (v : Value), U.vm.findClass C = some c ∧ U.fieldFound? C n d = some (c, k, i, f) ∧ f.isStatic = true ∧ k.statics = some a ∧ U.heap[a]? = some cell ∧ cell.vm.isStatics = true ∧ cell.cls = c ∧ f.slot < cell.slots.size ∧ k.staticTypes[f.slot]? = some f.type ∧ cell.slots[f.slot]? = some v ∧ v.isRef = true
theorem th_L.of {args : Array Value} {s : State} {C n d : String} (hl : (Cond.laysStatic C n d).before args s = true) (h : (Cond.isRef (.static C n d)).before args s = true) : th_L C n d s := by
  obtain ⟨c, k, i, f, a, cell, h1, h2, h3, h4, h5, h6, h7, h8, h9⟩ := Cond.laysStatic_spec hl
  have he : (Term.static C n d).eval args s none [] s = cell.slots[f.slot]? := by
    simp [Term.eval, State.fieldNamed?, h2, h3, h4, h5, h6]
  have hs : cell.slots[f.slot]? = some cell.slots[f.slot] := Array.getElem?_eq_getElem h8
  rw [hs] at he
  simp only [Cond.before, Cond.holds, Cond.value, he] at h
  refine ⟨c, k, i, f, a, cell, cell.slots[f.slot], h1, h2, h3, h4, h5, h6, h7, h8, h9, hs, ?_⟩
  revert h
  generalize cell.slots[f.slot] = v
  intro h
  cases v <;> simp_all [Value.isRef]
theorem th_L.go {C n d : String} {s U : State} (hvm : s.vm.Alike U.vm) (hH : ∀ q : Nat, q < s.heap.size → U.heap[q]? = s.heap[q]?) (h : th_L C n d s) : th_L C n d U := by
  obtain ⟨c, k, i, f, a, cell, v, h1, h2, h3, h4, h5, h6, h7, h8, h9, h10, h11⟩ := h
  obtain ⟨k', hi', he⟩ := State.fieldFound?_setVm hvm h2
  exact ⟨c, k', i, f, a, cell, v, by rw [hvm.findClass]; exact h1, hi', h3, by rw [he]; exact h4, by rw [hH a (Array.getElem?_eq_some_iff.mp h5).1]; exact h5, h6, h7, h8, by rw [he]; exact h9, h10, h11⟩
theorem th_L.lays {C n d : String} {s : State} {args : Array Value} (h : th_L C n d s) : (Cond.laysStatic C n d).before args s = true := by
  obtain ⟨c, k, i, f, a, cell, v, h1, h2, h3, h4, h5, h6, h7, h8, h9, -⟩ := h
  show (Cond.laysStatic C n d).holds args s none s [] = true
  exact Cond.laysStatic_of h1 h2 h3 h4 h5 h6 h7 h8 h9
theorem th_L.isRef {C n d : String} {s : State} {args : Array Value} (h : th_L C n d s) : (Cond.isRef (.static C n d)).before args s = true := by
  obtain ⟨c, k, i, f, a, cell, v, h1, h2, h3, h4, h5, h6, h7, h8, h9, h10, h11⟩ := h
  have he : (Term.static C n d).eval args s none [] s = some v := by
    simp [Term.eval, State.fieldNamed?, h2, h3, h4, h5, h6, h10]
  simp only [Cond.before, Cond.holds, Cond.value, he]
  cases v <;> simp_all [Value.isRef]
def th_S (U : State) : Prop := th_L Bundle.tN "UNASSIGNED_STACK" Bundle.steD U ∧ th_L Bundle.tN "SUPPRESSED_SENTINEL" Bundle.listD U
theorem th_S.go {s U : State} (hvm : s.vm.Alike U.vm) (hH : ∀ q : Nat, q < s.heap.size → U.heap[q]? = s.heap[q]?) (h : th_S s) : th_S U := ⟨h.1.go hvm hH, h.2.go hvm hH⟩
theorem th_decl {args : Array Value} {s : State} {x : MethodName} {bytes : ByteArray} {n : Nat} {ret : Option FieldType} (hi : (Cond.instanceMethod x).before args s = true) (hc : (Cond.code x bytes n ret).before args s = true) : (Cond.declares x).before args s = true := by
  obtain ⟨m, meth, h1, h2, h3, -⟩ := Cond.instanceMethod_spec hi
  obtain ⟨meth', c, h2', -, -, -, -, -, -, h4⟩ := Cond.code_spec h1 hc
  cases h2.symm.trans h2'
  simp [Cond.before, Cond.holds, Cond.value, h1, h2, h3, h4]
theorem th_cast {args : Array Value} {s : State} {X : String} {n : Nat} (hi : (Cond.instantiable X n).before args s = true) : (Cond.castable X X).before args s = true := by
  obtain ⟨c1, k1, hc1, -⟩ := Cond.instantiable_spec hi
  simp [Cond.before, Cond.holds, Cond.value, hc1, va_asg]
abbrev th_X : String := "java/lang/IndexOutOfBoundsException"
abbrev th_N : List String := ["java/lang/RuntimeException", "java/lang/Exception"]
theorem th_bad (own : String) (ic : Nat) : (Bundle.ownAtoms own ic th_X th_N).filter (fun w => !goodWord w) = [Cond.laysStatic Bundle.tN "UNASSIGNED_STACK" Bundle.steD, Cond.laysStatic Bundle.tN "SUPPRESSED_SENTINEL" Bundle.listD, Cond.declares (Bundle.initS "java/lang/RuntimeException"), Cond.declares (Bundle.initS "java/lang/Exception"), Cond.declares (Bundle.initS Bundle.tN), Cond.castable th_X th_X, Cond.isRef (.static Bundle.tN "UNASSIGNED_STACK" Bundle.steD), Cond.isRef (.static Bundle.tN "SUPPRESSED_SENTINEL" Bundle.listD)] := rfl
theorem th_good {args : Array Value} {s : State} {own : String} {ic : Nat} (h : ∀ w ∈ (Bundle.ownAtoms own ic th_X th_N).filter goodWord, w.before args s = true) (hS : th_S s) : ∀ a ∈ Bundle.ownAtoms own ic th_X th_N, a.before args s = true := by
  have hd : ∀ (X : String), Cond.instanceMethod (Bundle.initS X) ∈ (Bundle.ownAtoms own ic th_X th_N).filter goodWord → ∀ (bs : ByteArray), Cond.code (Bundle.initS X) bs 2 none ∈ (Bundle.ownAtoms own ic th_X th_N).filter goodWord → (Cond.declares (Bundle.initS X)).before args s = true :=
    fun X h1 bs h2 => th_decl (h _ h1) (h _ h2)
  intro a ha
  cases hg : goodWord a with
  | true => exact h a (List.mem_filter.mpr ⟨ha, hg⟩)
  | false =>
    have hm : a ∈ (Bundle.ownAtoms own ic th_X th_N).filter (fun w => !goodWord w) := List.mem_filter.mpr ⟨ha, by simp [hg]⟩
    rw [th_bad] at hm
    simp only [List.mem_cons, List.not_mem_nil, or_false] at hm
    rcases hm with rfl | rfl | rfl | rfl | rfl | rfl | rfl | rfl
    · exact hS.1.lays
    · exact hS.2.lays
    · exact hd _ (List.mem_filter.mpr ⟨by simp [Bundle.ownAtoms, Bundle.chainSAtoms, Bundle.passSAtoms], rfl⟩) Bundle.six (List.mem_filter.mpr ⟨by simp [Bundle.ownAtoms, Bundle.chainSAtoms, Bundle.passSAtoms], rfl⟩)
    · exact hd _ (List.mem_filter.mpr ⟨by simp [Bundle.ownAtoms, Bundle.chainSAtoms, Bundle.passSAtoms], rfl⟩) Bundle.six (List.mem_filter.mpr ⟨by simp [Bundle.ownAtoms, Bundle.chainSAtoms, Bundle.passSAtoms], rfl⟩)
    · exact th_decl (h _ (List.mem_filter.mpr ⟨by simp [Bundle.ownAtoms, Bundle.throwableSAtoms], rfl⟩)) (h (Cond.code (Bundle.initS Bundle.tN) _ 2 none) (List.mem_filter.mpr ⟨by simp only [Bundle.ownAtoms, Bundle.throwableSAtoms]; simp; exact Or.inr (Or.inl rfl), rfl⟩))
    · exact th_cast (h (Cond.instantiable th_X 6) (List.mem_filter.mpr ⟨by simp [Bundle.ownAtoms], rfl⟩))
    · exact hS.1.isRef
    · exact hS.2.isRef
end
section
def TG : u_T := fun k => match k with
  | 0 => ("ImageGcds", "letters", "I", true)
  | 1 => ("ImageGcds", "polys", "[LImageGcds$Poly;", true)
  | 2 => ("ImageGcds", "made", "I", false)
  | _ => ("ImageGcds", "bench", "LImageGcds$Bench;", false)
def tG : Nat → FieldType := fun k => match k with
  | 0 => .int
  | 1 => .array (.object "ImageGcds$Poly")
  | 2 => .int
  | _ => .object "ImageGcds$Bench"
abbrev wUG : List Cond := u_ws "ImageGcds" TG 4
theorem nG : ∀ a, a < 4 → ∀ b, b < 4 → a ≠ b → (TG a).2.1 ≠ (TG b).2.1 := by decide +kernel
theorem tG_ok : ∀ k, k < 4 → parseFieldDescriptor (TG k).2.2.1 = some (tG k) := by decide +kernel
def TP : u_T := fun k => match k with
  | 0 => ("ImageGcds$Poly", "size", "I", false)
  | 1 => ("ImageGcds$Poly", "keys", "[I", false)
  | _ => ("ImageGcds$Poly", "numbers", "[I", false)
def tP : Nat → FieldType := fun k => match k with
  | 0 => .int
  | 1 => .array .int
  | _ => .array .int
abbrev wUP : List Cond := u_ws "ImageGcds$Poly" TP 3
theorem nP : ∀ a, a < 3 → ∀ b, b < 3 → a ≠ b → (TP a).2.1 ≠ (TP b).2.1 := by decide +kernel
theorem tP_ok : ∀ k, k < 3 → parseFieldDescriptor (TP k).2.2.1 = some (tP k) := by decide +kernel
def TM : u_T := fun k => match k with
  | 0 => ("ImageGcdsModel", "thrown", "I", false)
  | 1 => ("ImageGcdsModel", "letters", "I", true)
  | 2 => ("ImageGcdsModel", "count", "I", false)
  | 3 => ("ImageGcdsModel", "n", "[I", true)
  | 4 => ("ImageGcdsModel", "two", "[I", true)
  | 5 => ("ImageGcdsModel", "a", "[I", true)
  | 6 => ("ImageGcdsModel", "b", "[I", true)
  | 7 => ("ImageGcdsModel", "c", "[I", true)
  | 8 => ("ImageGcdsModel", "degreeA", "I", false)
  | 9 => ("ImageGcdsModel", "degreeB", "I", false)
  | 10 => ("ImageGcdsModel", "degreeC", "I", false)
  | 11 => ("ImageGcdsModel", "point", "[I", true)
  | 12 => ("ImageGcdsModel", "given", "[I", true)
  | 13 => ("ImageGcdsModel", "whole", "[I", true)
  | 14 => ("ImageGcdsModel", "pointsTwo", "[I", true)
  | 15 => ("ImageGcdsModel", "valuesTwo", "[I", true)
  | 16 => ("ImageGcdsModel", "pointsY", "[I", true)
  | 17 => ("ImageGcdsModel", "valuesY", "[I", true)
  | 18 => ("ImageGcdsModel", "pointsZ", "[I", true)
  | 19 => ("ImageGcdsModel", "valuesZ", "[I", true)
  | 20 => ("ImageGcdsModel", "grid", "[I", true)
  | 21 => ("ImageGcdsModel", "planeA", "[I", true)
  | 22 => ("ImageGcdsModel", "planeB", "[I", true)
  | 23 => ("ImageGcdsModel", "matrix", "[I", true)
  | _ => ("ImageGcdsModel", "found", "I", false)
def tM : Nat → FieldType := fun k => match k with
  | 0 => .int
  | 1 => .int
  | 2 => .int
  | 3 => .array .int
  | 4 => .array .int
  | 5 => .array .int
  | 6 => .array .int
  | 7 => .array .int
  | 8 => .int
  | 9 => .int
  | 10 => .int
  | 11 => .array .int
  | 12 => .array .int
  | 13 => .array .int
  | 14 => .array .int
  | 15 => .array .int
  | 16 => .array .int
  | 17 => .array .int
  | 18 => .array .int
  | 19 => .array .int
  | 20 => .array .int
  | 21 => .array .int
  | 22 => .array .int
  | 23 => .array .int
  | _ => .int
abbrev wUM : List Cond := u_ws "ImageGcdsModel" TM 25
theorem nM : ∀ a, a < 25 → ∀ b, b < 25 → a ≠ b → (TM a).2.1 ≠ (TM b).2.1 := by decide +kernel
theorem tM_ok : ∀ k, k < 25 → parseFieldDescriptor (TM k).2.2.1 = some (tM k) := by decide +kernel
abbrev cls9 : List vw_C := [("ImageGcds", TG, 4), ("ImageGcds$Poly", TP, 3), ("ImageGcdsModel", TM, 25)]
abbrev bG_held : ByteArray := prog_1_method_18_code
abbrev yG_held : MethodName := ⟨"ImageGcds", "held", "(I)LImageGcds$Poly;"⟩
abbrev bG_term : ByteArray := prog_1_method_3_code
abbrev yG_term : MethodName := ⟨"ImageGcds", "term", "(IJJI)Z"⟩
abbrev bG_add : ByteArray := prog_1_method_4_code
abbrev yG_add : MethodName := ⟨"ImageGcds", "add", "(II)I"⟩
abbrev bG_times : ByteArray := prog_1_method_5_code
abbrev yG_times : MethodName := ⟨"ImageGcds", "times", "(II)I"⟩
abbrev bG_over : ByteArray := prog_1_method_6_code
abbrev yG_over : MethodName := ⟨"ImageGcds", "over", "(II)I"⟩
abbrev bG_gcd : ByteArray := prog_1_method_7_code
abbrev yG_gcd : MethodName := ⟨"ImageGcds", "gcd", "(II)I"⟩
abbrev bG_resultant : ByteArray := prog_1_method_8_code
abbrev yG_resultant : MethodName := ⟨"ImageGcds", "resultant", "(III)I"⟩
abbrev bG_slope : ByteArray := prog_1_method_9_code
abbrev yG_slope : MethodName := ⟨"ImageGcds", "slope", "(II)I"⟩
abbrev bG_content : ByteArray := prog_1_method_10_code
abbrev yG_content : MethodName := ⟨"ImageGcds", "content", "(II)I"⟩
abbrev bG_part : ByteArray := prog_1_method_11_code
abbrev yG_part : MethodName := ⟨"ImageGcds", "part", "(II)I"⟩
abbrev bG_image : ByteArray := prog_1_method_12_code
abbrev yG_image : MethodName := ⟨"ImageGcds", "image", "(III)I"⟩
abbrev bG_equal : ByteArray := prog_1_method_13_code
abbrev yG_equal : MethodName := ⟨"ImageGcds", "equal", "(II)Z"⟩
abbrev bG_terms : ByteArray := prog_1_method_14_code
abbrev yG_terms : MethodName := ⟨"ImageGcds", "terms", "(I)I"⟩
abbrev bG_at : ByteArray := prog_1_method_15_code
abbrev yG_at : MethodName := ⟨"ImageGcds", "at", "(III)I"⟩
abbrev bG_degree : ByteArray := prog_1_method_16_code
abbrev yG_degree : MethodName := ⟨"ImageGcds", "degree", "(II)I"⟩
abbrev bL_term : ByteArray := method_4_code
abbrev yL_term : MethodName := ⟨"ImageGcdsLaw", "term", "(LImageGcds;IJJI[J)I"⟩
abbrev bL_add : ByteArray := method_5_code
abbrev yL_add : MethodName := ⟨"ImageGcdsLaw", "add", "(LImageGcds;II[J)I"⟩
abbrev bL_times : ByteArray := method_6_code
abbrev yL_times : MethodName := ⟨"ImageGcdsLaw", "times", "(LImageGcds;II[J)I"⟩
abbrev bL_over : ByteArray := method_7_code
abbrev yL_over : MethodName := ⟨"ImageGcdsLaw", "over", "(LImageGcds;II[J)I"⟩
abbrev bL_gcd : ByteArray := method_8_code
abbrev yL_gcd : MethodName := ⟨"ImageGcdsLaw", "gcd", "(LImageGcds;II[J)I"⟩
abbrev bL_resultant : ByteArray := method_9_code
abbrev yL_resultant : MethodName := ⟨"ImageGcdsLaw", "resultant", "(LImageGcds;III[J)I"⟩
abbrev bL_slope : ByteArray := method_10_code
abbrev yL_slope : MethodName := ⟨"ImageGcdsLaw", "slope", "(LImageGcds;II[J)I"⟩
abbrev bL_content : ByteArray := method_11_code
abbrev yL_content : MethodName := ⟨"ImageGcdsLaw", "content", "(LImageGcds;II[J)I"⟩
abbrev bL_part : ByteArray := method_12_code
abbrev yL_part : MethodName := ⟨"ImageGcdsLaw", "part", "(LImageGcds;II[J)I"⟩
abbrev bL_image : ByteArray := method_13_code
abbrev yL_image : MethodName := ⟨"ImageGcdsLaw", "image", "(LImageGcds;III[J)I"⟩
abbrev bL_equal : ByteArray := method_14_code
abbrev yL_equal : MethodName := ⟨"ImageGcdsLaw", "equal", "(LImageGcds;II[J)I"⟩
abbrev bL_terms : ByteArray := method_15_code
abbrev yL_terms : MethodName := ⟨"ImageGcdsLaw", "terms", "(LImageGcds;I[J)I"⟩
abbrev bL_at : ByteArray := method_16_code
abbrev yL_at : MethodName := ⟨"ImageGcdsLaw", "at", "(LImageGcds;III[J)I"⟩
abbrev bL_degree : ByteArray := method_17_code
abbrev yL_degree : MethodName := ⟨"ImageGcdsLaw", "degree", "(LImageGcds;II[J)I"⟩
abbrev bM_number : ByteArray := prog_12_method_4_code
abbrev yM_number : MethodName := ⟨"ImageGcdsModel", "number", "(J)I"⟩
abbrev bM_isPoly : ByteArray := prog_12_method_48_code
abbrev yM_isPoly : MethodName := ⟨"ImageGcdsModel", "isPoly", "(I)Z"⟩
abbrev bM_isFull : ByteArray := prog_12_method_50_code
abbrev yM_isFull : MethodName := ⟨"ImageGcdsModel", "isFull", "()Z"⟩
abbrev bM_isLetter : ByteArray := prog_12_method_51_code
abbrev yM_isLetter : MethodName := ⟨"ImageGcdsModel", "isLetter", "(I)Z"⟩
abbrev bM_areNot : ByteArray := prog_12_method_49_code
abbrev yM_areNot : MethodName := ⟨"ImageGcdsModel", "areNot", "(II)Z"⟩
abbrev bM_thrown : ByteArray := prog_12_method_2_code
abbrev yM_thrown : MethodName := ⟨"ImageGcdsModel", "thrown", "()I"⟩
abbrev bM_fails : ByteArray := prog_12_method_3_code
abbrev yM_fails : MethodName := ⟨"ImageGcdsModel", "fails", "(ZZZ)Z"⟩
abbrev bM_count : ByteArray := prog_12_method_77_code
abbrev yM_count : MethodName := ⟨"ImageGcdsModel", "count", "()I"⟩
abbrev bM_term : ByteArray := prog_12_method_54_code
abbrev yM_term : MethodName := ⟨"ImageGcdsModel", "term", "(IJJI)Z"⟩
abbrev bM_add : ByteArray := prog_12_method_55_code
abbrev yM_add : MethodName := ⟨"ImageGcdsModel", "add", "(II)I"⟩
abbrev bM_times : ByteArray := prog_12_method_56_code
abbrev yM_times : MethodName := ⟨"ImageGcdsModel", "times", "(II)I"⟩
abbrev bM_over : ByteArray := prog_12_method_57_code
abbrev yM_over : MethodName := ⟨"ImageGcdsModel", "over", "(II)I"⟩
abbrev bM_gcd : ByteArray := prog_12_method_58_code
abbrev yM_gcd : MethodName := ⟨"ImageGcdsModel", "gcd", "(II)I"⟩
abbrev bM_resultant : ByteArray := prog_12_method_65_code
abbrev yM_resultant : MethodName := ⟨"ImageGcdsModel", "resultant", "(III)I"⟩
abbrev bM_slope : ByteArray := prog_12_method_67_code
abbrev yM_slope : MethodName := ⟨"ImageGcdsModel", "slope", "(II)I"⟩
abbrev bM_content : ByteArray := prog_12_method_68_code
abbrev yM_content : MethodName := ⟨"ImageGcdsModel", "content", "(II)I"⟩
abbrev bM_part : ByteArray := prog_12_method_70_code
abbrev yM_part : MethodName := ⟨"ImageGcdsModel", "part", "(II)I"⟩
abbrev bM_image : ByteArray := prog_12_method_71_code
abbrev yM_image : MethodName := ⟨"ImageGcdsModel", "image", "(III)I"⟩
abbrev bM_equal : ByteArray := prog_12_method_72_code
abbrev yM_equal : MethodName := ⟨"ImageGcdsModel", "equal", "(II)Z"⟩
abbrev bM_terms : ByteArray := prog_12_method_74_code
abbrev yM_terms : MethodName := ⟨"ImageGcdsModel", "terms", "(I)I"⟩
abbrev bM_at : ByteArray := prog_12_method_75_code
abbrev yM_at : MethodName := ⟨"ImageGcdsModel", "at", "(III)I"⟩
abbrev bM_degree : ByteArray := prog_12_method_76_code
abbrev yM_degree : MethodName := ⟨"ImageGcdsModel", "degree", "(II)I"⟩
abbrev bG_init : ByteArray := prog_1_method_1_code
abbrev yG_init : MethodName := ⟨"ImageGcds", "<init>", "(I)V"⟩
abbrev bM_init : ByteArray := prog_12_method_1_code
abbrev yM_init : MethodName := ⟨"ImageGcdsModel", "<init>", "(I)V"⟩
abbrev bP_init : ByteArray := prog_8_method_1_code
abbrev yP_init : MethodName := ⟨"ImageGcds$Poly", "<init>", "(I)V"⟩
abbrev bG_count : ByteArray := prog_1_method_17_code
abbrev yG_count : MethodName := ⟨"ImageGcds", "count", "()I"⟩
abbrev bL_cell : ByteArray := method_2_code
abbrev yL_cell : MethodName := ⟨"ImageGcdsLaw", "cell", "([II)I"⟩
abbrev bM_clear : ByteArray := prog_12_method_7_code
abbrev yM_clear : MethodName := ⟨"ImageGcdsModel", "clear", "(I)V"⟩
abbrev bM_copy : ByteArray := prog_12_method_8_code
abbrev yM_copy : MethodName := ⟨"ImageGcdsModel", "copy", "(II)V"⟩
abbrev bM_made : ByteArray := prog_12_method_52_code
abbrev yM_made : MethodName := ⟨"ImageGcdsModel", "made", "(I)I"⟩
abbrev bM_poly : ByteArray := prog_12_method_53_code
abbrev yM_poly : MethodName := ⟨"ImageGcdsModel", "poly", "()I"⟩
abbrev bG_requireRoom : ByteArray := prog_1_method_19_code
abbrev yG_requireRoom : MethodName := ⟨"ImageGcds", "requireRoom", "()V"⟩
abbrev bG_keep : ByteArray := prog_1_method_23_code
abbrev yG_keep : MethodName := ⟨"ImageGcds", "keep", "(LImageGcds$Poly;)I"⟩
abbrev bG_poly : ByteArray := prog_1_method_2_code
abbrev yG_poly : MethodName := ⟨"ImageGcds", "poly", "()I"⟩
abbrev bL_poly : ByteArray := method_3_code
abbrev yL_poly : MethodName := ⟨"ImageGcdsLaw", "poly", "(LImageGcds;[J)I"⟩
end
section
theorem dG_add_0 : decode bG_add 0 = .ok (.aload_n 0, 1) := by decide +kernel
theorem dG_add_1 : decode bG_add 1 = .ok (.iload_n 1, 1) := by decide +kernel
theorem dG_add_2 : decode bG_add 2 = .ok (.invokevirtual 32, 3) := by decide +kernel
theorem dG_at_0 : decode bG_at 0 = .ok (.aload_n 0, 1) := by decide +kernel
theorem dG_at_1 : decode bG_at 1 = .ok (.iload_n 1, 1) := by decide +kernel
theorem dG_at_2 : decode bG_at 2 = .ok (.invokevirtual 32, 3) := by decide +kernel
theorem dG_content_0 : decode bG_content 0 = .ok (.aload_n 0, 1) := by decide +kernel
theorem dG_content_1 : decode bG_content 1 = .ok (.iload_n 1, 1) := by decide +kernel
theorem dG_content_2 : decode bG_content 2 = .ok (.invokevirtual 32, 3) := by decide +kernel
theorem dG_count_0 : decode bG_count 0 = .ok (.aload_n 0, 1) := by decide +kernel
theorem dG_count_1 : decode bG_count 1 = .ok (.getfield 19, 3) := by decide +kernel
theorem dG_count_4 : decode bG_count 4 = .ok (.ireturn, 1) := by decide +kernel
theorem dG_degree_0 : decode bG_degree 0 = .ok (.aload_n 0, 1) := by decide +kernel
theorem dG_degree_1 : decode bG_degree 1 = .ok (.iload_n 1, 1) := by decide +kernel
theorem dG_degree_2 : decode bG_degree 2 = .ok (.invokevirtual 32, 3) := by decide +kernel
theorem dG_equal_0 : decode bG_equal 0 = .ok (.aload_n 0, 1) := by decide +kernel
theorem dG_equal_1 : decode bG_equal 1 = .ok (.iload_n 1, 1) := by decide +kernel
theorem dG_equal_2 : decode bG_equal 2 = .ok (.invokevirtual 32, 3) := by decide +kernel
theorem dG_gcd_0 : decode bG_gcd 0 = .ok (.aload_n 0, 1) := by decide +kernel
theorem dG_gcd_1 : decode bG_gcd 1 = .ok (.iload_n 1, 1) := by decide +kernel
theorem dG_gcd_2 : decode bG_gcd 2 = .ok (.invokevirtual 32, 3) := by decide +kernel
theorem dG_held_0 : decode bG_held 0 = .ok (.iload_n 1, 1) := by decide +kernel
theorem dG_held_1 : decode bG_held 1 = .ok (.ifCond .lt 20, 3) := by decide +kernel
theorem dG_held_4 : decode bG_held 4 = .ok (.iload_n 1, 1) := by decide +kernel
theorem dG_held_5 : decode bG_held 5 = .ok (.aload_n 0, 1) := by decide +kernel
theorem dG_held_6 : decode bG_held 6 = .ok (.getfield 19, 3) := by decide +kernel
theorem dG_held_9 : decode bG_held 9 = .ok (.if_icmp .ge 12, 3) := by decide +kernel
theorem dG_held_21 : decode bG_held 21 = .ok (.new 137, 3) := by decide +kernel
theorem dG_held_24 : decode bG_held 24 = .ok (.dup, 1) := by decide +kernel
theorem dG_held_25 : decode bG_held 25 = .ok (.ldc 139, 2) := by decide +kernel
theorem dG_held_27 : decode bG_held 27 = .ok (.invokespecial 141, 3) := by decide +kernel
theorem dG_held_30 : decode bG_held 30 = .ok (.athrow, 1) := by decide +kernel
theorem dG_image_0 : decode bG_image 0 = .ok (.aload_n 0, 1) := by decide +kernel
theorem dG_image_1 : decode bG_image 1 = .ok (.iload_n 1, 1) := by decide +kernel
theorem dG_image_2 : decode bG_image 2 = .ok (.invokevirtual 32, 3) := by decide +kernel
theorem dG_init_0 : decode bG_init 0 = .ok (.aload_n 0, 1) := by decide +kernel
theorem dG_init_1 : decode bG_init 1 = .ok (.invokespecial 1, 3) := by decide +kernel
theorem dG_init_4 : decode bG_init 4 = .ok (.aload_n 0, 1) := by decide +kernel
theorem dG_init_5 : decode bG_init 5 = .ok (.iload_n 1, 1) := by decide +kernel
theorem dG_init_6 : decode bG_init 6 = .ok (.iconst 1, 1) := by decide +kernel
theorem dG_init_7 : decode bG_init 7 = .ok (.if_icmp .ge 7, 3) := by decide +kernel
theorem dG_init_10 : decode bG_init 10 = .ok (.iconst 1, 1) := by decide +kernel
theorem dG_init_11 : decode bG_init 11 = .ok (.goto 13, 3) := by decide +kernel
theorem dG_init_14 : decode bG_init 14 = .ok (.iload_n 1, 1) := by decide +kernel
theorem dG_init_15 : decode bG_init 15 = .ok (.iconst 3, 1) := by decide +kernel
theorem dG_init_16 : decode bG_init 16 = .ok (.if_icmp .le 7, 3) := by decide +kernel
theorem dG_init_19 : decode bG_init 19 = .ok (.iconst 3, 1) := by decide +kernel
theorem dG_init_20 : decode bG_init 20 = .ok (.goto 4, 3) := by decide +kernel
theorem dG_init_23 : decode bG_init 23 = .ok (.iload_n 1, 1) := by decide +kernel
theorem dG_init_24 : decode bG_init 24 = .ok (.putfield 9, 3) := by decide +kernel
theorem dG_init_27 : decode bG_init 27 = .ok (.aload_n 0, 1) := by decide +kernel
theorem dG_init_28 : decode bG_init 28 = .ok (.bipush 60, 2) := by decide +kernel
theorem dG_init_30 : decode bG_init 30 = .ok (.anewarray 13, 3) := by decide +kernel
theorem dG_init_33 : decode bG_init 33 = .ok (.putfield 15, 3) := by decide +kernel
theorem dG_init_36 : decode bG_init 36 = .ok (.aload_n 0, 1) := by decide +kernel
theorem dG_init_37 : decode bG_init 37 = .ok (.iconst 0, 1) := by decide +kernel
theorem dG_init_38 : decode bG_init 38 = .ok (.putfield 19, 3) := by decide +kernel
theorem dG_init_41 : decode bG_init 41 = .ok (.return_, 1) := by decide +kernel
theorem dG_keep_0 : decode bG_keep 0 = .ok (.aload_n 0, 1) := by decide +kernel
theorem dG_keep_1 : decode bG_keep 1 = .ok (.getfield 19, 3) := by decide +kernel
theorem dG_keep_4 : decode bG_keep 4 = .ok (.aload_n 0, 1) := by decide +kernel
theorem dG_keep_5 : decode bG_keep 5 = .ok (.getfield 15, 3) := by decide +kernel
theorem dG_keep_8 : decode bG_keep 8 = .ok (.arraylength, 1) := by decide +kernel
theorem dG_keep_9 : decode bG_keep 9 = .ok (.if_icmp .ge 23, 3) := by decide +kernel
theorem dG_keep_12 : decode bG_keep 12 = .ok (.aload_n 0, 1) := by decide +kernel
theorem dG_keep_13 : decode bG_keep 13 = .ok (.getfield 15, 3) := by decide +kernel
theorem dG_keep_16 : decode bG_keep 16 = .ok (.aload_n 0, 1) := by decide +kernel
theorem dG_keep_17 : decode bG_keep 17 = .ok (.getfield 19, 3) := by decide +kernel
theorem dG_keep_20 : decode bG_keep 20 = .ok (.aload_n 1, 1) := by decide +kernel
theorem dG_keep_21 : decode bG_keep 21 = .ok (.aastore, 1) := by decide +kernel
theorem dG_keep_22 : decode bG_keep 22 = .ok (.aload_n 0, 1) := by decide +kernel
theorem dG_keep_23 : decode bG_keep 23 = .ok (.dup, 1) := by decide +kernel
theorem dG_keep_24 : decode bG_keep 24 = .ok (.getfield 19, 3) := by decide +kernel
theorem dG_keep_27 : decode bG_keep 27 = .ok (.iconst 1, 1) := by decide +kernel
theorem dG_keep_28 : decode bG_keep 28 = .ok (.iadd, 1) := by decide +kernel
theorem dG_keep_29 : decode bG_keep 29 = .ok (.putfield 19, 3) := by decide +kernel
theorem dG_keep_32 : decode bG_keep 32 = .ok (.aload_n 0, 1) := by decide +kernel
theorem dG_keep_33 : decode bG_keep 33 = .ok (.getfield 19, 3) := by decide +kernel
theorem dG_keep_36 : decode bG_keep 36 = .ok (.iconst 1, 1) := by decide +kernel
theorem dG_keep_37 : decode bG_keep 37 = .ok (.isub, 1) := by decide +kernel
theorem dG_keep_38 : decode bG_keep 38 = .ok (.ireturn, 1) := by decide +kernel
theorem dG_over_0 : decode bG_over 0 = .ok (.aload_n 0, 1) := by decide +kernel
theorem dG_over_1 : decode bG_over 1 = .ok (.iload_n 1, 1) := by decide +kernel
theorem dG_over_2 : decode bG_over 2 = .ok (.invokevirtual 32, 3) := by decide +kernel
theorem dG_part_0 : decode bG_part 0 = .ok (.aload_n 0, 1) := by decide +kernel
theorem dG_part_1 : decode bG_part 1 = .ok (.iload_n 1, 1) := by decide +kernel
theorem dG_part_2 : decode bG_part 2 = .ok (.invokevirtual 32, 3) := by decide +kernel
theorem dG_poly_0 : decode bG_poly 0 = .ok (.aload_n 0, 1) := by decide +kernel
theorem dG_poly_1 : decode bG_poly 1 = .ok (.invokevirtual 22, 3) := by decide +kernel
theorem dG_poly_4 : decode bG_poly 4 = .ok (.aload_n 0, 1) := by decide +kernel
theorem dG_poly_5 : decode bG_poly 5 = .ok (.new 13, 3) := by decide +kernel
theorem dG_poly_8 : decode bG_poly 8 = .ok (.dup, 1) := by decide +kernel
theorem dG_poly_9 : decode bG_poly 9 = .ok (.iconst 0, 1) := by decide +kernel
theorem dG_poly_10 : decode bG_poly 10 = .ok (.invokespecial 25, 3) := by decide +kernel
theorem dG_poly_13 : decode bG_poly 13 = .ok (.invokevirtual 28, 3) := by decide +kernel
theorem dG_poly_16 : decode bG_poly 16 = .ok (.ireturn, 1) := by decide +kernel
theorem dG_requireRoom_0 : decode bG_requireRoom 0 = .ok (.aload_n 0, 1) := by decide +kernel
theorem dG_requireRoom_1 : decode bG_requireRoom 1 = .ok (.getfield 19, 3) := by decide +kernel
theorem dG_requireRoom_4 : decode bG_requireRoom 4 = .ok (.bipush 60, 2) := by decide +kernel
theorem dG_requireRoom_6 : decode bG_requireRoom 6 = .ok (.if_icmp .lt 13, 3) := by decide +kernel
theorem dG_requireRoom_19 : decode bG_requireRoom 19 = .ok (.return_, 1) := by decide +kernel
theorem dG_resultant_0 : decode bG_resultant 0 = .ok (.aload_n 0, 1) := by decide +kernel
theorem dG_resultant_1 : decode bG_resultant 1 = .ok (.iload_n 1, 1) := by decide +kernel
theorem dG_resultant_2 : decode bG_resultant 2 = .ok (.invokevirtual 32, 3) := by decide +kernel
theorem dG_slope_0 : decode bG_slope 0 = .ok (.aload_n 0, 1) := by decide +kernel
theorem dG_slope_1 : decode bG_slope 1 = .ok (.iload_n 1, 1) := by decide +kernel
theorem dG_slope_2 : decode bG_slope 2 = .ok (.invokevirtual 32, 3) := by decide +kernel
theorem dG_term_0 : decode bG_term 0 = .ok (.aload_n 0, 1) := by decide +kernel
theorem dG_term_1 : decode bG_term 1 = .ok (.iload_n 1, 1) := by decide +kernel
theorem dG_term_2 : decode bG_term 2 = .ok (.invokevirtual 32, 3) := by decide +kernel
theorem dG_terms_0 : decode bG_terms 0 = .ok (.aload_n 0, 1) := by decide +kernel
theorem dG_terms_1 : decode bG_terms 1 = .ok (.iload_n 1, 1) := by decide +kernel
theorem dG_terms_2 : decode bG_terms 2 = .ok (.invokevirtual 32, 3) := by decide +kernel
theorem dG_times_0 : decode bG_times 0 = .ok (.aload_n 0, 1) := by decide +kernel
theorem dG_times_1 : decode bG_times 1 = .ok (.iload_n 1, 1) := by decide +kernel
theorem dG_times_2 : decode bG_times 2 = .ok (.invokevirtual 32, 3) := by decide +kernel
theorem dL_add_0 : decode bL_add 0 = .ok (.aload_n 3, 1) := by decide +kernel
theorem dL_add_1 : decode bL_add 1 = .ok (.iconst 0, 1) := by decide +kernel
theorem dL_add_2 : decode bL_add 2 = .ok (.aload_n 0, 1) := by decide +kernel
theorem dL_add_3 : decode bL_add 3 = .ok (.iload_n 1, 1) := by decide +kernel
end
section
theorem dL_add_4 : decode bL_add 4 = .ok (.iload_n 2, 1) := by decide +kernel
theorem dL_add_5 : decode bL_add 5 = .ok (.invokevirtual 25, 3) := by decide +kernel
theorem dL_add_13 : decode bL_add 13 = .ok (.astore 4, 2) := by decide +kernel
theorem dL_add_15 : decode bL_add 15 = .ok (.iconst 1, 1) := by decide +kernel
theorem dL_add_16 : decode bL_add 16 = .ok (.ireturn, 1) := by decide +kernel
theorem dL_at_0 : decode bL_at 0 = .ok (.aload 4, 2) := by decide +kernel
theorem dL_at_2 : decode bL_at 2 = .ok (.iconst 0, 1) := by decide +kernel
theorem dL_at_3 : decode bL_at 3 = .ok (.aload_n 0, 1) := by decide +kernel
theorem dL_at_4 : decode bL_at 4 = .ok (.iload_n 1, 1) := by decide +kernel
theorem dL_at_5 : decode bL_at 5 = .ok (.iload_n 2, 1) := by decide +kernel
theorem dL_at_6 : decode bL_at 6 = .ok (.iload_n 3, 1) := by decide +kernel
theorem dL_at_7 : decode bL_at 7 = .ok (.invokevirtual 62, 3) := by decide +kernel
theorem dL_at_15 : decode bL_at 15 = .ok (.astore 5, 2) := by decide +kernel
theorem dL_at_17 : decode bL_at 17 = .ok (.iconst 1, 1) := by decide +kernel
theorem dL_at_18 : decode bL_at 18 = .ok (.ireturn, 1) := by decide +kernel
theorem dL_cell_0 : decode bL_cell 0 = .ok (.iload_n 1, 1) := by decide +kernel
theorem dL_cell_1 : decode bL_cell 1 = .ok (.aload_n 0, 1) := by decide +kernel
theorem dL_cell_2 : decode bL_cell 2 = .ok (.arraylength, 1) := by decide +kernel
theorem dL_cell_3 : decode bL_cell 3 = .ok (.if_icmp .ge 9, 3) := by decide +kernel
theorem dL_cell_6 : decode bL_cell 6 = .ok (.aload_n 0, 1) := by decide +kernel
theorem dL_cell_7 : decode bL_cell 7 = .ok (.iload_n 1, 1) := by decide +kernel
theorem dL_cell_8 : decode bL_cell 8 = .ok (.iaload, 1) := by decide +kernel
theorem dL_cell_9 : decode bL_cell 9 = .ok (.goto 4, 3) := by decide +kernel
theorem dL_cell_12 : decode bL_cell 12 = .ok (.iconst 0, 1) := by decide +kernel
theorem dL_cell_13 : decode bL_cell 13 = .ok (.ireturn, 1) := by decide +kernel
theorem dL_content_0 : decode bL_content 0 = .ok (.aload_n 3, 1) := by decide +kernel
theorem dL_content_1 : decode bL_content 1 = .ok (.iconst 0, 1) := by decide +kernel
theorem dL_content_2 : decode bL_content 2 = .ok (.aload_n 0, 1) := by decide +kernel
theorem dL_content_3 : decode bL_content 3 = .ok (.iload_n 1, 1) := by decide +kernel
theorem dL_content_4 : decode bL_content 4 = .ok (.iload_n 2, 1) := by decide +kernel
theorem dL_content_5 : decode bL_content 5 = .ok (.invokevirtual 45, 3) := by decide +kernel
theorem dL_content_13 : decode bL_content 13 = .ok (.astore 4, 2) := by decide +kernel
theorem dL_content_15 : decode bL_content 15 = .ok (.iconst 1, 1) := by decide +kernel
theorem dL_content_16 : decode bL_content 16 = .ok (.ireturn, 1) := by decide +kernel
theorem dL_degree_0 : decode bL_degree 0 = .ok (.aload_n 3, 1) := by decide +kernel
theorem dL_degree_1 : decode bL_degree 1 = .ok (.iconst 0, 1) := by decide +kernel
theorem dL_degree_2 : decode bL_degree 2 = .ok (.aload_n 0, 1) := by decide +kernel
theorem dL_degree_3 : decode bL_degree 3 = .ok (.iload_n 1, 1) := by decide +kernel
theorem dL_degree_4 : decode bL_degree 4 = .ok (.iload_n 2, 1) := by decide +kernel
theorem dL_degree_5 : decode bL_degree 5 = .ok (.invokevirtual 65, 3) := by decide +kernel
theorem dL_degree_13 : decode bL_degree 13 = .ok (.astore 4, 2) := by decide +kernel
theorem dL_degree_15 : decode bL_degree 15 = .ok (.iconst 1, 1) := by decide +kernel
theorem dL_degree_16 : decode bL_degree 16 = .ok (.ireturn, 1) := by decide +kernel
theorem dL_equal_0 : decode bL_equal 0 = .ok (.aload_n 3, 1) := by decide +kernel
theorem dL_equal_1 : decode bL_equal 1 = .ok (.iconst 0, 1) := by decide +kernel
theorem dL_equal_2 : decode bL_equal 2 = .ok (.aload_n 0, 1) := by decide +kernel
theorem dL_equal_3 : decode bL_equal 3 = .ok (.iload_n 1, 1) := by decide +kernel
theorem dL_equal_4 : decode bL_equal 4 = .ok (.iload_n 2, 1) := by decide +kernel
theorem dL_equal_5 : decode bL_equal 5 = .ok (.invokevirtual 54, 3) := by decide +kernel
theorem dL_equal_20 : decode bL_equal 20 = .ok (.astore 4, 2) := by decide +kernel
theorem dL_equal_22 : decode bL_equal 22 = .ok (.iconst 1, 1) := by decide +kernel
theorem dL_equal_23 : decode bL_equal 23 = .ok (.ireturn, 1) := by decide +kernel
theorem dL_gcd_0 : decode bL_gcd 0 = .ok (.aload_n 3, 1) := by decide +kernel
theorem dL_gcd_1 : decode bL_gcd 1 = .ok (.iconst 0, 1) := by decide +kernel
theorem dL_gcd_2 : decode bL_gcd 2 = .ok (.aload_n 0, 1) := by decide +kernel
theorem dL_gcd_3 : decode bL_gcd 3 = .ok (.iload_n 1, 1) := by decide +kernel
theorem dL_gcd_4 : decode bL_gcd 4 = .ok (.iload_n 2, 1) := by decide +kernel
theorem dL_gcd_5 : decode bL_gcd 5 = .ok (.invokevirtual 35, 3) := by decide +kernel
theorem dL_gcd_13 : decode bL_gcd 13 = .ok (.astore 4, 2) := by decide +kernel
theorem dL_gcd_15 : decode bL_gcd 15 = .ok (.iconst 1, 1) := by decide +kernel
theorem dL_gcd_16 : decode bL_gcd 16 = .ok (.ireturn, 1) := by decide +kernel
theorem dL_image_0 : decode bL_image 0 = .ok (.aload 4, 2) := by decide +kernel
theorem dL_image_2 : decode bL_image 2 = .ok (.iconst 0, 1) := by decide +kernel
theorem dL_image_3 : decode bL_image 3 = .ok (.aload_n 0, 1) := by decide +kernel
theorem dL_image_4 : decode bL_image 4 = .ok (.iload_n 1, 1) := by decide +kernel
theorem dL_image_5 : decode bL_image 5 = .ok (.iload_n 2, 1) := by decide +kernel
theorem dL_image_6 : decode bL_image 6 = .ok (.iload_n 3, 1) := by decide +kernel
theorem dL_image_7 : decode bL_image 7 = .ok (.invokevirtual 51, 3) := by decide +kernel
theorem dL_image_15 : decode bL_image 15 = .ok (.astore 5, 2) := by decide +kernel
theorem dL_image_17 : decode bL_image 17 = .ok (.iconst 1, 1) := by decide +kernel
theorem dL_image_18 : decode bL_image 18 = .ok (.ireturn, 1) := by decide +kernel
theorem dL_over_0 : decode bL_over 0 = .ok (.aload_n 3, 1) := by decide +kernel
theorem dL_over_1 : decode bL_over 1 = .ok (.iconst 0, 1) := by decide +kernel
theorem dL_over_2 : decode bL_over 2 = .ok (.aload_n 0, 1) := by decide +kernel
theorem dL_over_3 : decode bL_over 3 = .ok (.iload_n 1, 1) := by decide +kernel
theorem dL_over_4 : decode bL_over 4 = .ok (.iload_n 2, 1) := by decide +kernel
theorem dL_over_5 : decode bL_over 5 = .ok (.invokevirtual 32, 3) := by decide +kernel
theorem dL_over_13 : decode bL_over 13 = .ok (.astore 4, 2) := by decide +kernel
theorem dL_over_15 : decode bL_over 15 = .ok (.iconst 1, 1) := by decide +kernel
theorem dL_over_16 : decode bL_over 16 = .ok (.ireturn, 1) := by decide +kernel
theorem dL_part_0 : decode bL_part 0 = .ok (.aload_n 3, 1) := by decide +kernel
theorem dL_part_1 : decode bL_part 1 = .ok (.iconst 0, 1) := by decide +kernel
theorem dL_part_2 : decode bL_part 2 = .ok (.aload_n 0, 1) := by decide +kernel
theorem dL_part_3 : decode bL_part 3 = .ok (.iload_n 1, 1) := by decide +kernel
theorem dL_part_4 : decode bL_part 4 = .ok (.iload_n 2, 1) := by decide +kernel
theorem dL_part_5 : decode bL_part 5 = .ok (.invokevirtual 48, 3) := by decide +kernel
theorem dL_part_13 : decode bL_part 13 = .ok (.astore 4, 2) := by decide +kernel
theorem dL_part_15 : decode bL_part 15 = .ok (.iconst 1, 1) := by decide +kernel
theorem dL_part_16 : decode bL_part 16 = .ok (.ireturn, 1) := by decide +kernel
theorem dL_poly_0 : decode bL_poly 0 = .ok (.aload_n 1, 1) := by decide +kernel
theorem dL_poly_1 : decode bL_poly 1 = .ok (.iconst 0, 1) := by decide +kernel
theorem dL_poly_2 : decode bL_poly 2 = .ok (.aload_n 0, 1) := by decide +kernel
theorem dL_poly_3 : decode bL_poly 3 = .ok (.invokevirtual 7, 3) := by decide +kernel
theorem dL_poly_6 : decode bL_poly 6 = .ok (.i2l, 1) := by decide +kernel
theorem dL_poly_7 : decode bL_poly 7 = .ok (.lastore, 1) := by decide +kernel
theorem dL_poly_8 : decode bL_poly 8 = .ok (.goto 6, 3) := by decide +kernel
theorem dL_poly_14 : decode bL_poly 14 = .ok (.iconst 0, 1) := by decide +kernel
theorem dL_poly_15 : decode bL_poly 15 = .ok (.ireturn, 1) := by decide +kernel
theorem dL_resultant_0 : decode bL_resultant 0 = .ok (.aload 4, 2) := by decide +kernel
theorem dL_resultant_2 : decode bL_resultant 2 = .ok (.iconst 0, 1) := by decide +kernel
theorem dL_resultant_3 : decode bL_resultant 3 = .ok (.aload_n 0, 1) := by decide +kernel
theorem dL_resultant_4 : decode bL_resultant 4 = .ok (.iload_n 1, 1) := by decide +kernel
theorem dL_resultant_5 : decode bL_resultant 5 = .ok (.iload_n 2, 1) := by decide +kernel
theorem dL_resultant_6 : decode bL_resultant 6 = .ok (.iload_n 3, 1) := by decide +kernel
theorem dL_resultant_7 : decode bL_resultant 7 = .ok (.invokevirtual 38, 3) := by decide +kernel
theorem dL_resultant_15 : decode bL_resultant 15 = .ok (.astore 5, 2) := by decide +kernel
theorem dL_resultant_17 : decode bL_resultant 17 = .ok (.iconst 1, 1) := by decide +kernel
theorem dL_resultant_18 : decode bL_resultant 18 = .ok (.ireturn, 1) := by decide +kernel
theorem dL_slope_0 : decode bL_slope 0 = .ok (.aload_n 3, 1) := by decide +kernel
theorem dL_slope_1 : decode bL_slope 1 = .ok (.iconst 0, 1) := by decide +kernel
theorem dL_slope_2 : decode bL_slope 2 = .ok (.aload_n 0, 1) := by decide +kernel
theorem dL_slope_3 : decode bL_slope 3 = .ok (.iload_n 1, 1) := by decide +kernel
theorem dL_slope_4 : decode bL_slope 4 = .ok (.iload_n 2, 1) := by decide +kernel
theorem dL_slope_5 : decode bL_slope 5 = .ok (.invokevirtual 42, 3) := by decide +kernel
theorem dL_slope_13 : decode bL_slope 13 = .ok (.astore 4, 2) := by decide +kernel
theorem dL_slope_15 : decode bL_slope 15 = .ok (.iconst 1, 1) := by decide +kernel
theorem dL_slope_16 : decode bL_slope 16 = .ok (.ireturn, 1) := by decide +kernel
theorem dL_term_0 : decode bL_term 0 = .ok (.aload 7, 2) := by decide +kernel
theorem dL_term_2 : decode bL_term 2 = .ok (.iconst 0, 1) := by decide +kernel
theorem dL_term_3 : decode bL_term 3 = .ok (.aload_n 0, 1) := by decide +kernel
end
section
theorem dL_term_4 : decode bL_term 4 = .ok (.iload_n 1, 1) := by decide +kernel
theorem dL_term_5 : decode bL_term 5 = .ok (.lload_n 2, 1) := by decide +kernel
theorem dL_term_6 : decode bL_term 6 = .ok (.lload 4, 2) := by decide +kernel
theorem dL_term_8 : decode bL_term 8 = .ok (.iload 6, 2) := by decide +kernel
theorem dL_term_10 : decode bL_term 10 = .ok (.invokevirtual 15, 3) := by decide +kernel
theorem dL_term_25 : decode bL_term 25 = .ok (.astore 8, 2) := by decide +kernel
theorem dL_term_27 : decode bL_term 27 = .ok (.iconst 1, 1) := by decide +kernel
theorem dL_term_28 : decode bL_term 28 = .ok (.ireturn, 1) := by decide +kernel
theorem dL_terms_0 : decode bL_terms 0 = .ok (.aload_n 2, 1) := by decide +kernel
theorem dL_terms_1 : decode bL_terms 1 = .ok (.iconst 0, 1) := by decide +kernel
theorem dL_terms_2 : decode bL_terms 2 = .ok (.aload_n 0, 1) := by decide +kernel
theorem dL_terms_3 : decode bL_terms 3 = .ok (.iload_n 1, 1) := by decide +kernel
theorem dL_terms_4 : decode bL_terms 4 = .ok (.invokevirtual 58, 3) := by decide +kernel
theorem dL_terms_12 : decode bL_terms 12 = .ok (.astore_n 3, 1) := by decide +kernel
theorem dL_terms_13 : decode bL_terms 13 = .ok (.iconst 1, 1) := by decide +kernel
theorem dL_terms_14 : decode bL_terms 14 = .ok (.ireturn, 1) := by decide +kernel
theorem dL_times_0 : decode bL_times 0 = .ok (.aload_n 3, 1) := by decide +kernel
theorem dL_times_1 : decode bL_times 1 = .ok (.iconst 0, 1) := by decide +kernel
theorem dL_times_2 : decode bL_times 2 = .ok (.aload_n 0, 1) := by decide +kernel
theorem dL_times_3 : decode bL_times 3 = .ok (.iload_n 1, 1) := by decide +kernel
theorem dL_times_4 : decode bL_times 4 = .ok (.iload_n 2, 1) := by decide +kernel
theorem dL_times_5 : decode bL_times 5 = .ok (.invokevirtual 29, 3) := by decide +kernel
theorem dL_times_13 : decode bL_times 13 = .ok (.astore 4, 2) := by decide +kernel
theorem dL_times_15 : decode bL_times 15 = .ok (.iconst 1, 1) := by decide +kernel
theorem dL_times_16 : decode bL_times 16 = .ok (.ireturn, 1) := by decide +kernel
theorem dM_add_0 : decode bM_add 0 = .ok (.aload_n 0, 1) := by decide +kernel
theorem dM_add_1 : decode bM_add 1 = .ok (.aload_n 0, 1) := by decide +kernel
theorem dM_add_2 : decode bM_add 2 = .ok (.iload_n 1, 1) := by decide +kernel
theorem dM_add_3 : decode bM_add 3 = .ok (.iload_n 2, 1) := by decide +kernel
theorem dM_add_4 : decode bM_add 4 = .ok (.invokevirtual 244, 3) := by decide +kernel
theorem dM_add_7 : decode bM_add 7 = .ok (.aload_n 0, 1) := by decide +kernel
theorem dM_add_8 : decode bM_add 8 = .ok (.invokevirtual 229, 3) := by decide +kernel
theorem dM_add_11 : decode bM_add 11 = .ok (.iconst 0, 1) := by decide +kernel
theorem dM_add_12 : decode bM_add 12 = .ok (.invokevirtual 233, 3) := by decide +kernel
theorem dM_add_15 : decode bM_add 15 = .ok (.ifCond .eq 5, 3) := by decide +kernel
theorem dM_add_18 : decode bM_add 18 = .ok (.iconst 0, 1) := by decide +kernel
theorem dM_add_19 : decode bM_add 19 = .ok (.ireturn, 1) := by decide +kernel
theorem dM_areNot_0 : decode bM_areNot 0 = .ok (.aload_n 0, 1) := by decide +kernel
theorem dM_areNot_1 : decode bM_areNot 1 = .ok (.iload_n 1, 1) := by decide +kernel
theorem dM_areNot_2 : decode bM_areNot 2 = .ok (.invokevirtual 226, 3) := by decide +kernel
theorem dM_areNot_5 : decode bM_areNot 5 = .ok (.ifCond .eq 11, 3) := by decide +kernel
theorem dM_areNot_16 : decode bM_areNot 16 = .ok (.iconst 1, 1) := by decide +kernel
theorem dM_areNot_17 : decode bM_areNot 17 = .ok (.goto 4, 3) := by decide +kernel
theorem dM_areNot_21 : decode bM_areNot 21 = .ok (.ireturn, 1) := by decide +kernel
theorem dM_at_0 : decode bM_at 0 = .ok (.aload_n 0, 1) := by decide +kernel
theorem dM_at_1 : decode bM_at 1 = .ok (.iload_n 1, 1) := by decide +kernel
theorem dM_at_2 : decode bM_at 2 = .ok (.invokevirtual 226, 3) := by decide +kernel
theorem dM_at_5 : decode bM_at 5 = .ok (.ifCond .ne 7, 3) := by decide +kernel
theorem dM_at_8 : decode bM_at 8 = .ok (.iconst 1, 1) := by decide +kernel
theorem dM_at_9 : decode bM_at 9 = .ok (.goto 4, 3) := by decide +kernel
theorem dM_at_13 : decode bM_at 13 = .ok (.istore 4, 2) := by decide +kernel
theorem dM_at_15 : decode bM_at 15 = .ok (.aload_n 0, 1) := by decide +kernel
theorem dM_at_16 : decode bM_at 16 = .ok (.iload 4, 2) := by decide +kernel
theorem dM_at_18 : decode bM_at 18 = .ok (.iload 4, 2) := by decide +kernel
theorem dM_at_20 : decode bM_at 20 = .ok (.ifCond .ne 29, 3) := by decide +kernel
theorem dM_at_49 : decode bM_at 49 = .ok (.iconst 0, 1) := by decide +kernel
theorem dM_at_50 : decode bM_at 50 = .ok (.iconst 0, 1) := by decide +kernel
theorem dM_at_51 : decode bM_at 51 = .ok (.invokevirtual 233, 3) := by decide +kernel
theorem dM_at_54 : decode bM_at 54 = .ok (.ifCond .eq 5, 3) := by decide +kernel
theorem dM_at_57 : decode bM_at 57 = .ok (.iconst 0, 1) := by decide +kernel
theorem dM_at_58 : decode bM_at 58 = .ok (.ireturn, 1) := by decide +kernel
theorem dM_clear_0 : decode bM_clear 0 = .ok (.iconst 0, 1) := by decide +kernel
theorem dM_clear_1 : decode bM_clear 1 = .ok (.istore_n 2, 1) := by decide +kernel
theorem dM_clear_2 : decode bM_clear 2 = .ok (.iload_n 2, 1) := by decide +kernel
theorem dM_clear_3 : decode bM_clear 3 = .ok (.sipush 4096, 3) := by decide +kernel
theorem dM_clear_6 : decode bM_clear 6 = .ok (.if_icmp .ge 22, 3) := by decide +kernel
theorem dM_clear_9 : decode bM_clear 9 = .ok (.aload_n 0, 1) := by decide +kernel
theorem dM_clear_10 : decode bM_clear 10 = .ok (.getfield 8, 3) := by decide +kernel
theorem dM_clear_13 : decode bM_clear 13 = .ok (.sipush 4096, 3) := by decide +kernel
theorem dM_clear_16 : decode bM_clear 16 = .ok (.iload_n 1, 1) := by decide +kernel
theorem dM_clear_17 : decode bM_clear 17 = .ok (.imul, 1) := by decide +kernel
theorem dM_clear_18 : decode bM_clear 18 = .ok (.iload_n 2, 1) := by decide +kernel
theorem dM_clear_19 : decode bM_clear 19 = .ok (.iadd, 1) := by decide +kernel
theorem dM_clear_20 : decode bM_clear 20 = .ok (.iconst 0, 1) := by decide +kernel
theorem dM_clear_21 : decode bM_clear 21 = .ok (.iastore, 1) := by decide +kernel
theorem dM_clear_22 : decode bM_clear 22 = .ok (.iinc 2 1, 3) := by decide +kernel
theorem dM_clear_25 : decode bM_clear 25 = .ok (.goto (-23), 3) := by decide +kernel
theorem dM_clear_28 : decode bM_clear 28 = .ok (.return_, 1) := by decide +kernel
theorem dM_content_0 : decode bM_content 0 = .ok (.aload_n 0, 1) := by decide +kernel
theorem dM_content_1 : decode bM_content 1 = .ok (.aload_n 0, 1) := by decide +kernel
theorem dM_content_2 : decode bM_content 2 = .ok (.iload_n 1, 1) := by decide +kernel
theorem dM_content_3 : decode bM_content 3 = .ok (.invokevirtual 226, 3) := by decide +kernel
theorem dM_content_6 : decode bM_content 6 = .ok (.ifCond .ne 7, 3) := by decide +kernel
theorem dM_content_9 : decode bM_content 9 = .ok (.iconst 1, 1) := by decide +kernel
theorem dM_content_10 : decode bM_content 10 = .ok (.goto 4, 3) := by decide +kernel
theorem dM_content_14 : decode bM_content 14 = .ok (.aload_n 0, 1) := by decide +kernel
theorem dM_content_15 : decode bM_content 15 = .ok (.invokevirtual 229, 3) := by decide +kernel
theorem dM_content_18 : decode bM_content 18 = .ok (.aload_n 0, 1) := by decide +kernel
theorem dM_content_19 : decode bM_content 19 = .ok (.iload_n 2, 1) := by decide +kernel
theorem dM_content_20 : decode bM_content 20 = .ok (.invokevirtual 268, 3) := by decide +kernel
theorem dM_content_23 : decode bM_content 23 = .ok (.ifCond .ne 7, 3) := by decide +kernel
theorem dM_content_26 : decode bM_content 26 = .ok (.iconst 1, 1) := by decide +kernel
theorem dM_content_27 : decode bM_content 27 = .ok (.goto 4, 3) := by decide +kernel
theorem dM_content_30 : decode bM_content 30 = .ok (.iconst 0, 1) := by decide +kernel
theorem dM_content_31 : decode bM_content 31 = .ok (.invokevirtual 233, 3) := by decide +kernel
theorem dM_content_34 : decode bM_content 34 = .ok (.ifCond .eq 5, 3) := by decide +kernel
theorem dM_content_37 : decode bM_content 37 = .ok (.iconst 0, 1) := by decide +kernel
theorem dM_content_38 : decode bM_content 38 = .ok (.ireturn, 1) := by decide +kernel
theorem dM_copy_0 : decode bM_copy 0 = .ok (.iconst 0, 1) := by decide +kernel
theorem dM_copy_1 : decode bM_copy 1 = .ok (.istore_n 3, 1) := by decide +kernel
theorem dM_copy_2 : decode bM_copy 2 = .ok (.iload_n 3, 1) := by decide +kernel
theorem dM_copy_3 : decode bM_copy 3 = .ok (.sipush 4096, 3) := by decide +kernel
theorem dM_copy_6 : decode bM_copy 6 = .ok (.if_icmp .ge 33, 3) := by decide +kernel
theorem dM_copy_9 : decode bM_copy 9 = .ok (.aload_n 0, 1) := by decide +kernel
theorem dM_copy_10 : decode bM_copy 10 = .ok (.getfield 8, 3) := by decide +kernel
theorem dM_copy_13 : decode bM_copy 13 = .ok (.sipush 4096, 3) := by decide +kernel
theorem dM_copy_16 : decode bM_copy 16 = .ok (.iload_n 2, 1) := by decide +kernel
theorem dM_copy_17 : decode bM_copy 17 = .ok (.imul, 1) := by decide +kernel
theorem dM_copy_18 : decode bM_copy 18 = .ok (.iload_n 3, 1) := by decide +kernel
theorem dM_copy_19 : decode bM_copy 19 = .ok (.iadd, 1) := by decide +kernel
theorem dM_copy_20 : decode bM_copy 20 = .ok (.aload_n 0, 1) := by decide +kernel
theorem dM_copy_21 : decode bM_copy 21 = .ok (.getfield 8, 3) := by decide +kernel
theorem dM_copy_24 : decode bM_copy 24 = .ok (.sipush 4096, 3) := by decide +kernel
theorem dM_copy_27 : decode bM_copy 27 = .ok (.iload_n 1, 1) := by decide +kernel
theorem dM_copy_28 : decode bM_copy 28 = .ok (.imul, 1) := by decide +kernel
theorem dM_copy_29 : decode bM_copy 29 = .ok (.iload_n 3, 1) := by decide +kernel
theorem dM_copy_30 : decode bM_copy 30 = .ok (.iadd, 1) := by decide +kernel
theorem dM_copy_31 : decode bM_copy 31 = .ok (.iaload, 1) := by decide +kernel
theorem dM_copy_32 : decode bM_copy 32 = .ok (.iastore, 1) := by decide +kernel
theorem dM_copy_33 : decode bM_copy 33 = .ok (.iinc 3 1, 3) := by decide +kernel
end
section
theorem dM_copy_36 : decode bM_copy 36 = .ok (.goto (-34), 3) := by decide +kernel
theorem dM_copy_39 : decode bM_copy 39 = .ok (.return_, 1) := by decide +kernel
theorem dM_count_0 : decode bM_count 0 = .ok (.aload_n 0, 1) := by decide +kernel
theorem dM_count_1 : decode bM_count 1 = .ok (.iconst 0, 1) := by decide +kernel
theorem dM_count_2 : decode bM_count 2 = .ok (.putfield 69, 3) := by decide +kernel
theorem dM_count_5 : decode bM_count 5 = .ok (.aload_n 0, 1) := by decide +kernel
theorem dM_count_6 : decode bM_count 6 = .ok (.getfield 223, 3) := by decide +kernel
theorem dM_count_9 : decode bM_count 9 = .ok (.ireturn, 1) := by decide +kernel
theorem dM_degree_0 : decode bM_degree 0 = .ok (.aload_n 0, 1) := by decide +kernel
theorem dM_degree_1 : decode bM_degree 1 = .ok (.iload_n 1, 1) := by decide +kernel
theorem dM_degree_2 : decode bM_degree 2 = .ok (.invokevirtual 226, 3) := by decide +kernel
theorem dM_degree_5 : decode bM_degree 5 = .ok (.ifCond .ne 7, 3) := by decide +kernel
theorem dM_degree_8 : decode bM_degree 8 = .ok (.iconst 1, 1) := by decide +kernel
theorem dM_degree_9 : decode bM_degree 9 = .ok (.goto 4, 3) := by decide +kernel
theorem dM_degree_13 : decode bM_degree 13 = .ok (.istore_n 3, 1) := by decide +kernel
theorem dM_degree_14 : decode bM_degree 14 = .ok (.aload_n 0, 1) := by decide +kernel
theorem dM_degree_15 : decode bM_degree 15 = .ok (.iload_n 3, 1) := by decide +kernel
theorem dM_degree_16 : decode bM_degree 16 = .ok (.aload_n 0, 1) := by decide +kernel
theorem dM_degree_17 : decode bM_degree 17 = .ok (.iload_n 2, 1) := by decide +kernel
theorem dM_degree_18 : decode bM_degree 18 = .ok (.invokevirtual 268, 3) := by decide +kernel
theorem dM_degree_21 : decode bM_degree 21 = .ok (.ifCond .ne 7, 3) := by decide +kernel
theorem dM_degree_24 : decode bM_degree 24 = .ok (.iconst 1, 1) := by decide +kernel
theorem dM_degree_25 : decode bM_degree 25 = .ok (.goto 4, 3) := by decide +kernel
theorem dM_degree_28 : decode bM_degree 28 = .ok (.iconst 0, 1) := by decide +kernel
theorem dM_degree_29 : decode bM_degree 29 = .ok (.iconst 0, 1) := by decide +kernel
theorem dM_degree_30 : decode bM_degree 30 = .ok (.invokevirtual 233, 3) := by decide +kernel
theorem dM_degree_33 : decode bM_degree 33 = .ok (.ifCond .eq 5, 3) := by decide +kernel
theorem dM_degree_36 : decode bM_degree 36 = .ok (.iconst 0, 1) := by decide +kernel
theorem dM_degree_37 : decode bM_degree 37 = .ok (.ireturn, 1) := by decide +kernel
theorem dM_equal_0 : decode bM_equal 0 = .ok (.aload_n 0, 1) := by decide +kernel
theorem dM_equal_1 : decode bM_equal 1 = .ok (.aload_n 0, 1) := by decide +kernel
theorem dM_equal_2 : decode bM_equal 2 = .ok (.iload_n 1, 1) := by decide +kernel
theorem dM_equal_3 : decode bM_equal 3 = .ok (.iload_n 2, 1) := by decide +kernel
theorem dM_equal_4 : decode bM_equal 4 = .ok (.invokevirtual 244, 3) := by decide +kernel
theorem dM_equal_7 : decode bM_equal 7 = .ok (.iconst 0, 1) := by decide +kernel
theorem dM_equal_8 : decode bM_equal 8 = .ok (.iconst 0, 1) := by decide +kernel
theorem dM_equal_9 : decode bM_equal 9 = .ok (.invokevirtual 233, 3) := by decide +kernel
theorem dM_equal_12 : decode bM_equal 12 = .ok (.ifCond .eq 5, 3) := by decide +kernel
theorem dM_equal_15 : decode bM_equal 15 = .ok (.iconst 0, 1) := by decide +kernel
theorem dM_equal_16 : decode bM_equal 16 = .ok (.ireturn, 1) := by decide +kernel
theorem dM_fails_0 : decode bM_fails 0 = .ok (.aload_n 0, 1) := by decide +kernel
theorem dM_fails_1 : decode bM_fails 1 = .ok (.iload_n 1, 1) := by decide +kernel
theorem dM_fails_2 : decode bM_fails 2 = .ok (.ifCond .eq 7, 3) := by decide +kernel
theorem dM_fails_5 : decode bM_fails 5 = .ok (.iconst 1, 1) := by decide +kernel
theorem dM_fails_6 : decode bM_fails 6 = .ok (.goto 20, 3) := by decide +kernel
theorem dM_fails_9 : decode bM_fails 9 = .ok (.iload_n 2, 1) := by decide +kernel
theorem dM_fails_10 : decode bM_fails 10 = .ok (.ifCond .eq 7, 3) := by decide +kernel
theorem dM_fails_17 : decode bM_fails 17 = .ok (.iload_n 3, 1) := by decide +kernel
theorem dM_fails_18 : decode bM_fails 18 = .ok (.ifCond .eq 7, 3) := by decide +kernel
theorem dM_fails_25 : decode bM_fails 25 = .ok (.iconst 0, 1) := by decide +kernel
theorem dM_fails_26 : decode bM_fails 26 = .ok (.putfield 69, 3) := by decide +kernel
theorem dM_fails_29 : decode bM_fails 29 = .ok (.aload_n 0, 1) := by decide +kernel
theorem dM_fails_30 : decode bM_fails 30 = .ok (.getfield 69, 3) := by decide +kernel
theorem dM_fails_33 : decode bM_fails 33 = .ok (.ifCond .le 7, 3) := by decide +kernel
theorem dM_fails_36 : decode bM_fails 36 = .ok (.iconst 1, 1) := by decide +kernel
theorem dM_fails_37 : decode bM_fails 37 = .ok (.goto 4, 3) := by decide +kernel
theorem dM_fails_40 : decode bM_fails 40 = .ok (.iconst 0, 1) := by decide +kernel
theorem dM_fails_41 : decode bM_fails 41 = .ok (.ireturn, 1) := by decide +kernel
theorem dM_gcd_0 : decode bM_gcd 0 = .ok (.aload_n 0, 1) := by decide +kernel
theorem dM_gcd_1 : decode bM_gcd 1 = .ok (.aload_n 0, 1) := by decide +kernel
theorem dM_gcd_2 : decode bM_gcd 2 = .ok (.iload_n 1, 1) := by decide +kernel
theorem dM_gcd_3 : decode bM_gcd 3 = .ok (.iload_n 2, 1) := by decide +kernel
theorem dM_gcd_4 : decode bM_gcd 4 = .ok (.invokevirtual 244, 3) := by decide +kernel
theorem dM_gcd_7 : decode bM_gcd 7 = .ok (.aload_n 0, 1) := by decide +kernel
theorem dM_gcd_8 : decode bM_gcd 8 = .ok (.invokevirtual 229, 3) := by decide +kernel
theorem dM_gcd_11 : decode bM_gcd 11 = .ok (.iconst 0, 1) := by decide +kernel
theorem dM_gcd_12 : decode bM_gcd 12 = .ok (.invokevirtual 233, 3) := by decide +kernel
theorem dM_gcd_15 : decode bM_gcd 15 = .ok (.ifCond .eq 5, 3) := by decide +kernel
theorem dM_gcd_18 : decode bM_gcd 18 = .ok (.iconst 0, 1) := by decide +kernel
theorem dM_gcd_19 : decode bM_gcd 19 = .ok (.ireturn, 1) := by decide +kernel
theorem dM_image_0 : decode bM_image 0 = .ok (.aload_n 0, 1) := by decide +kernel
theorem dM_image_1 : decode bM_image 1 = .ok (.aload_n 0, 1) := by decide +kernel
theorem dM_image_2 : decode bM_image 2 = .ok (.iload_n 1, 1) := by decide +kernel
theorem dM_image_3 : decode bM_image 3 = .ok (.invokevirtual 226, 3) := by decide +kernel
theorem dM_image_6 : decode bM_image 6 = .ok (.ifCond .ne 7, 3) := by decide +kernel
theorem dM_image_9 : decode bM_image 9 = .ok (.iconst 1, 1) := by decide +kernel
theorem dM_image_10 : decode bM_image 10 = .ok (.goto 4, 3) := by decide +kernel
theorem dM_image_14 : decode bM_image 14 = .ok (.aload_n 0, 1) := by decide +kernel
theorem dM_image_15 : decode bM_image 15 = .ok (.invokevirtual 229, 3) := by decide +kernel
theorem dM_image_18 : decode bM_image 18 = .ok (.aload_n 0, 1) := by decide +kernel
theorem dM_image_19 : decode bM_image 19 = .ok (.iload_n 2, 1) := by decide +kernel
theorem dM_image_20 : decode bM_image 20 = .ok (.invokevirtual 268, 3) := by decide +kernel
theorem dM_image_23 : decode bM_image 23 = .ok (.ifCond .ne 7, 3) := by decide +kernel
theorem dM_image_26 : decode bM_image 26 = .ok (.iconst 1, 1) := by decide +kernel
theorem dM_image_27 : decode bM_image 27 = .ok (.goto 4, 3) := by decide +kernel
theorem dM_image_30 : decode bM_image 30 = .ok (.iconst 0, 1) := by decide +kernel
theorem dM_image_31 : decode bM_image 31 = .ok (.invokevirtual 233, 3) := by decide +kernel
theorem dM_image_34 : decode bM_image 34 = .ok (.ifCond .eq 5, 3) := by decide +kernel
theorem dM_image_37 : decode bM_image 37 = .ok (.iconst 0, 1) := by decide +kernel
theorem dM_image_38 : decode bM_image 38 = .ok (.ireturn, 1) := by decide +kernel
theorem dM_init_0 : decode bM_init 0 = .ok (.aload_n 0, 1) := by decide +kernel
theorem dM_init_1 : decode bM_init 1 = .ok (.invokespecial 1, 3) := by decide +kernel
theorem dM_init_4 : decode bM_init 4 = .ok (.aload_n 0, 1) := by decide +kernel
theorem dM_init_5 : decode bM_init 5 = .ok (.ldc 7, 2) := by decide +kernel
theorem dM_init_7 : decode bM_init 7 = .ok (.newarray .int, 2) := by decide +kernel
theorem dM_init_9 : decode bM_init 9 = .ok (.putfield 8, 3) := by decide +kernel
theorem dM_init_12 : decode bM_init 12 = .ok (.aload_n 0, 1) := by decide +kernel
theorem dM_init_13 : decode bM_init 13 = .ok (.sipush 16384, 3) := by decide +kernel
theorem dM_init_16 : decode bM_init 16 = .ok (.newarray .int, 2) := by decide +kernel
theorem dM_init_18 : decode bM_init 18 = .ok (.putfield 14, 3) := by decide +kernel
theorem dM_init_21 : decode bM_init 21 = .ok (.aload_n 0, 1) := by decide +kernel
theorem dM_init_22 : decode bM_init 22 = .ok (.sipush 128, 3) := by decide +kernel
theorem dM_init_25 : decode bM_init 25 = .ok (.newarray .int, 2) := by decide +kernel
theorem dM_init_27 : decode bM_init 27 = .ok (.putfield 17, 3) := by decide +kernel
theorem dM_init_30 : decode bM_init 30 = .ok (.aload_n 0, 1) := by decide +kernel
theorem dM_init_31 : decode bM_init 31 = .ok (.sipush 128, 3) := by decide +kernel
theorem dM_init_34 : decode bM_init 34 = .ok (.newarray .int, 2) := by decide +kernel
theorem dM_init_36 : decode bM_init 36 = .ok (.putfield 20, 3) := by decide +kernel
theorem dM_init_39 : decode bM_init 39 = .ok (.aload_n 0, 1) := by decide +kernel
theorem dM_init_40 : decode bM_init 40 = .ok (.sipush 128, 3) := by decide +kernel
theorem dM_init_43 : decode bM_init 43 = .ok (.newarray .int, 2) := by decide +kernel
theorem dM_init_45 : decode bM_init 45 = .ok (.putfield 23, 3) := by decide +kernel
theorem dM_init_48 : decode bM_init 48 = .ok (.aload_n 0, 1) := by decide +kernel
theorem dM_init_49 : decode bM_init 49 = .ok (.bipush 64, 2) := by decide +kernel
theorem dM_init_51 : decode bM_init 51 = .ok (.newarray .int, 2) := by decide +kernel
theorem dM_init_53 : decode bM_init 53 = .ok (.putfield 26, 3) := by decide +kernel
theorem dM_init_56 : decode bM_init 56 = .ok (.aload_n 0, 1) := by decide +kernel
theorem dM_init_57 : decode bM_init 57 = .ok (.bipush 64, 2) := by decide +kernel
theorem dM_init_59 : decode bM_init 59 = .ok (.newarray .int, 2) := by decide +kernel
theorem dM_init_61 : decode bM_init 61 = .ok (.putfield 29, 3) := by decide +kernel
end
section
theorem dM_init_64 : decode bM_init 64 = .ok (.aload_n 0, 1) := by decide +kernel
theorem dM_init_65 : decode bM_init 65 = .ok (.bipush 64, 2) := by decide +kernel
theorem dM_init_67 : decode bM_init 67 = .ok (.newarray .int, 2) := by decide +kernel
theorem dM_init_69 : decode bM_init 69 = .ok (.putfield 32, 3) := by decide +kernel
theorem dM_init_72 : decode bM_init 72 = .ok (.aload_n 0, 1) := by decide +kernel
theorem dM_init_73 : decode bM_init 73 = .ok (.bipush 64, 2) := by decide +kernel
theorem dM_init_75 : decode bM_init 75 = .ok (.newarray .int, 2) := by decide +kernel
theorem dM_init_77 : decode bM_init 77 = .ok (.putfield 35, 3) := by decide +kernel
theorem dM_init_80 : decode bM_init 80 = .ok (.aload_n 0, 1) := by decide +kernel
theorem dM_init_81 : decode bM_init 81 = .ok (.sipush 2048, 3) := by decide +kernel
theorem dM_init_84 : decode bM_init 84 = .ok (.newarray .int, 2) := by decide +kernel
theorem dM_init_86 : decode bM_init 86 = .ok (.putfield 38, 3) := by decide +kernel
theorem dM_init_89 : decode bM_init 89 = .ok (.aload_n 0, 1) := by decide +kernel
theorem dM_init_90 : decode bM_init 90 = .ok (.bipush 32, 2) := by decide +kernel
theorem dM_init_92 : decode bM_init 92 = .ok (.newarray .int, 2) := by decide +kernel
theorem dM_init_94 : decode bM_init 94 = .ok (.putfield 41, 3) := by decide +kernel
theorem dM_init_97 : decode bM_init 97 = .ok (.aload_n 0, 1) := by decide +kernel
theorem dM_init_98 : decode bM_init 98 = .ok (.sipush 512, 3) := by decide +kernel
theorem dM_init_101 : decode bM_init 101 = .ok (.newarray .int, 2) := by decide +kernel
theorem dM_init_103 : decode bM_init 103 = .ok (.putfield 44, 3) := by decide +kernel
theorem dM_init_106 : decode bM_init 106 = .ok (.aload_n 0, 1) := by decide +kernel
theorem dM_init_107 : decode bM_init 107 = .ok (.bipush 32, 2) := by decide +kernel
theorem dM_init_109 : decode bM_init 109 = .ok (.newarray .int, 2) := by decide +kernel
theorem dM_init_111 : decode bM_init 111 = .ok (.putfield 47, 3) := by decide +kernel
theorem dM_init_114 : decode bM_init 114 = .ok (.aload_n 0, 1) := by decide +kernel
theorem dM_init_115 : decode bM_init 115 = .ok (.sipush 16384, 3) := by decide +kernel
theorem dM_init_118 : decode bM_init 118 = .ok (.newarray .int, 2) := by decide +kernel
theorem dM_init_120 : decode bM_init 120 = .ok (.putfield 50, 3) := by decide +kernel
theorem dM_init_123 : decode bM_init 123 = .ok (.aload_n 0, 1) := by decide +kernel
theorem dM_init_124 : decode bM_init 124 = .ok (.sipush 16384, 3) := by decide +kernel
theorem dM_init_127 : decode bM_init 127 = .ok (.newarray .int, 2) := by decide +kernel
theorem dM_init_129 : decode bM_init 129 = .ok (.putfield 53, 3) := by decide +kernel
theorem dM_init_132 : decode bM_init 132 = .ok (.aload_n 0, 1) := by decide +kernel
theorem dM_init_133 : decode bM_init 133 = .ok (.sipush 256, 3) := by decide +kernel
theorem dM_init_136 : decode bM_init 136 = .ok (.newarray .int, 2) := by decide +kernel
theorem dM_init_138 : decode bM_init 138 = .ok (.putfield 56, 3) := by decide +kernel
theorem dM_init_141 : decode bM_init 141 = .ok (.aload_n 0, 1) := by decide +kernel
theorem dM_init_142 : decode bM_init 142 = .ok (.sipush 256, 3) := by decide +kernel
theorem dM_init_145 : decode bM_init 145 = .ok (.newarray .int, 2) := by decide +kernel
theorem dM_init_147 : decode bM_init 147 = .ok (.putfield 59, 3) := by decide +kernel
theorem dM_init_150 : decode bM_init 150 = .ok (.aload_n 0, 1) := by decide +kernel
theorem dM_init_151 : decode bM_init 151 = .ok (.sipush 900, 3) := by decide +kernel
theorem dM_init_154 : decode bM_init 154 = .ok (.newarray .int, 2) := by decide +kernel
theorem dM_init_156 : decode bM_init 156 = .ok (.putfield 62, 3) := by decide +kernel
theorem dM_init_159 : decode bM_init 159 = .ok (.aload_n 0, 1) := by decide +kernel
theorem dM_init_160 : decode bM_init 160 = .ok (.iload_n 1, 1) := by decide +kernel
theorem dM_init_161 : decode bM_init 161 = .ok (.iconst 1, 1) := by decide +kernel
theorem dM_init_162 : decode bM_init 162 = .ok (.if_icmp .ge 7, 3) := by decide +kernel
theorem dM_init_165 : decode bM_init 165 = .ok (.iconst 1, 1) := by decide +kernel
theorem dM_init_166 : decode bM_init 166 = .ok (.goto 13, 3) := by decide +kernel
theorem dM_init_169 : decode bM_init 169 = .ok (.iload_n 1, 1) := by decide +kernel
theorem dM_init_170 : decode bM_init 170 = .ok (.iconst 3, 1) := by decide +kernel
theorem dM_init_171 : decode bM_init 171 = .ok (.if_icmp .le 7, 3) := by decide +kernel
theorem dM_init_174 : decode bM_init 174 = .ok (.iconst 3, 1) := by decide +kernel
theorem dM_init_175 : decode bM_init 175 = .ok (.goto 4, 3) := by decide +kernel
theorem dM_init_178 : decode bM_init 178 = .ok (.iload_n 1, 1) := by decide +kernel
theorem dM_init_179 : decode bM_init 179 = .ok (.putfield 65, 3) := by decide +kernel
theorem dM_init_182 : decode bM_init 182 = .ok (.return_, 1) := by decide +kernel
theorem dM_isFull_0 : decode bM_isFull 0 = .ok (.aload_n 0, 1) := by decide +kernel
theorem dM_isFull_1 : decode bM_isFull 1 = .ok (.getfield 223, 3) := by decide +kernel
theorem dM_isFull_4 : decode bM_isFull 4 = .ok (.bipush 60, 2) := by decide +kernel
theorem dM_isFull_6 : decode bM_isFull 6 = .ok (.if_icmp .ne 7, 3) := by decide +kernel
theorem dM_isFull_13 : decode bM_isFull 13 = .ok (.iconst 0, 1) := by decide +kernel
theorem dM_isFull_14 : decode bM_isFull 14 = .ok (.ireturn, 1) := by decide +kernel
theorem dM_isLetter_0 : decode bM_isLetter 0 = .ok (.iload_n 1, 1) := by decide +kernel
theorem dM_isLetter_1 : decode bM_isLetter 1 = .ok (.ifCond .lt 15, 3) := by decide +kernel
theorem dM_isLetter_4 : decode bM_isLetter 4 = .ok (.iload_n 1, 1) := by decide +kernel
theorem dM_isLetter_5 : decode bM_isLetter 5 = .ok (.aload_n 0, 1) := by decide +kernel
theorem dM_isLetter_6 : decode bM_isLetter 6 = .ok (.getfield 65, 3) := by decide +kernel
theorem dM_isLetter_9 : decode bM_isLetter 9 = .ok (.if_icmp .ge 7, 3) := by decide +kernel
theorem dM_isLetter_12 : decode bM_isLetter 12 = .ok (.iconst 1, 1) := by decide +kernel
theorem dM_isLetter_13 : decode bM_isLetter 13 = .ok (.goto 4, 3) := by decide +kernel
theorem dM_isLetter_16 : decode bM_isLetter 16 = .ok (.iconst 0, 1) := by decide +kernel
theorem dM_isLetter_17 : decode bM_isLetter 17 = .ok (.ireturn, 1) := by decide +kernel
theorem dM_isPoly_0 : decode bM_isPoly 0 = .ok (.iload_n 1, 1) := by decide +kernel
theorem dM_isPoly_1 : decode bM_isPoly 1 = .ok (.ifCond .lt 15, 3) := by decide +kernel
theorem dM_isPoly_4 : decode bM_isPoly 4 = .ok (.iload_n 1, 1) := by decide +kernel
theorem dM_isPoly_5 : decode bM_isPoly 5 = .ok (.aload_n 0, 1) := by decide +kernel
theorem dM_isPoly_6 : decode bM_isPoly 6 = .ok (.getfield 223, 3) := by decide +kernel
theorem dM_isPoly_9 : decode bM_isPoly 9 = .ok (.if_icmp .ge 7, 3) := by decide +kernel
theorem dM_isPoly_16 : decode bM_isPoly 16 = .ok (.iconst 0, 1) := by decide +kernel
theorem dM_isPoly_17 : decode bM_isPoly 17 = .ok (.ireturn, 1) := by decide +kernel
theorem dM_made_0 : decode bM_made 0 = .ok (.aload_n 0, 1) := by decide +kernel
theorem dM_made_1 : decode bM_made 1 = .ok (.iload_n 1, 1) := by decide +kernel
theorem dM_made_2 : decode bM_made 2 = .ok (.aload_n 0, 1) := by decide +kernel
theorem dM_made_3 : decode bM_made 3 = .ok (.getfield 223, 3) := by decide +kernel
theorem dM_made_6 : decode bM_made 6 = .ok (.invokevirtual 99, 3) := by decide +kernel
theorem dM_made_9 : decode bM_made 9 = .ok (.aload_n 0, 1) := by decide +kernel
theorem dM_made_10 : decode bM_made 10 = .ok (.dup, 1) := by decide +kernel
theorem dM_made_11 : decode bM_made 11 = .ok (.getfield 223, 3) := by decide +kernel
theorem dM_made_14 : decode bM_made 14 = .ok (.iconst 1, 1) := by decide +kernel
theorem dM_made_15 : decode bM_made 15 = .ok (.iadd, 1) := by decide +kernel
theorem dM_made_16 : decode bM_made 16 = .ok (.putfield 223, 3) := by decide +kernel
theorem dM_made_19 : decode bM_made 19 = .ok (.aload_n 0, 1) := by decide +kernel
theorem dM_made_20 : decode bM_made 20 = .ok (.getfield 223, 3) := by decide +kernel
theorem dM_made_23 : decode bM_made 23 = .ok (.iconst 1, 1) := by decide +kernel
theorem dM_made_24 : decode bM_made 24 = .ok (.isub, 1) := by decide +kernel
theorem dM_made_25 : decode bM_made 25 = .ok (.ireturn, 1) := by decide +kernel
theorem dM_number_0 : decode bM_number 0 = .ok (.lload_n 0, 1) := by decide +kernel
theorem dM_number_1 : decode bM_number 1 = .ok (.ldc2_w 72, 3) := by decide +kernel
theorem dM_number_4 : decode bM_number 4 = .ok (.lrem, 1) := by decide +kernel
theorem dM_number_5 : decode bM_number 5 = .ok (.l2i, 1) := by decide +kernel
theorem dM_number_6 : decode bM_number 6 = .ok (.istore_n 2, 1) := by decide +kernel
theorem dM_number_7 : decode bM_number 7 = .ok (.iload_n 2, 1) := by decide +kernel
theorem dM_number_8 : decode bM_number 8 = .ok (.ifCond .ge 11, 3) := by decide +kernel
theorem dM_number_11 : decode bM_number 11 = .ok (.iload_n 2, 1) := by decide +kernel
theorem dM_number_12 : decode bM_number 12 = .ok (.sipush 32003, 3) := by decide +kernel
theorem dM_number_15 : decode bM_number 15 = .ok (.iadd, 1) := by decide +kernel
theorem dM_number_16 : decode bM_number 16 = .ok (.goto 4, 3) := by decide +kernel
theorem dM_number_19 : decode bM_number 19 = .ok (.iload_n 2, 1) := by decide +kernel
theorem dM_number_20 : decode bM_number 20 = .ok (.ireturn, 1) := by decide +kernel
theorem dM_over_0 : decode bM_over 0 = .ok (.aload_n 0, 1) := by decide +kernel
theorem dM_over_1 : decode bM_over 1 = .ok (.aload_n 0, 1) := by decide +kernel
theorem dM_over_2 : decode bM_over 2 = .ok (.iload_n 1, 1) := by decide +kernel
theorem dM_over_3 : decode bM_over 3 = .ok (.iload_n 2, 1) := by decide +kernel
theorem dM_over_4 : decode bM_over 4 = .ok (.invokevirtual 244, 3) := by decide +kernel
theorem dM_over_7 : decode bM_over 7 = .ok (.aload_n 0, 1) := by decide +kernel
theorem dM_over_8 : decode bM_over 8 = .ok (.invokevirtual 229, 3) := by decide +kernel
theorem dM_over_11 : decode bM_over 11 = .ok (.iconst 0, 1) := by decide +kernel
theorem dM_over_12 : decode bM_over 12 = .ok (.invokevirtual 233, 3) := by decide +kernel
end
section
theorem dM_over_15 : decode bM_over 15 = .ok (.ifCond .eq 5, 3) := by decide +kernel
theorem dM_over_18 : decode bM_over 18 = .ok (.iconst 0, 1) := by decide +kernel
theorem dM_over_19 : decode bM_over 19 = .ok (.ireturn, 1) := by decide +kernel
theorem dM_part_0 : decode bM_part 0 = .ok (.aload_n 0, 1) := by decide +kernel
theorem dM_part_1 : decode bM_part 1 = .ok (.iload_n 1, 1) := by decide +kernel
theorem dM_part_2 : decode bM_part 2 = .ok (.invokevirtual 226, 3) := by decide +kernel
theorem dM_part_5 : decode bM_part 5 = .ok (.ifCond .ne 7, 3) := by decide +kernel
theorem dM_part_8 : decode bM_part 8 = .ok (.iconst 1, 1) := by decide +kernel
theorem dM_part_9 : decode bM_part 9 = .ok (.goto 4, 3) := by decide +kernel
theorem dM_part_13 : decode bM_part 13 = .ok (.istore_n 3, 1) := by decide +kernel
theorem dM_part_14 : decode bM_part 14 = .ok (.iload_n 3, 1) := by decide +kernel
theorem dM_part_15 : decode bM_part 15 = .ok (.ifCond .ne 26, 3) := by decide +kernel
theorem dM_part_41 : decode bM_part 41 = .ok (.iconst 0, 1) := by decide +kernel
theorem dM_part_42 : decode bM_part 42 = .ok (.istore 4, 2) := by decide +kernel
theorem dM_part_44 : decode bM_part 44 = .ok (.aload_n 0, 1) := by decide +kernel
theorem dM_part_45 : decode bM_part 45 = .ok (.iload_n 3, 1) := by decide +kernel
theorem dM_part_46 : decode bM_part 46 = .ok (.aload_n 0, 1) := by decide +kernel
theorem dM_part_47 : decode bM_part 47 = .ok (.invokevirtual 229, 3) := by decide +kernel
theorem dM_part_50 : decode bM_part 50 = .ok (.iload 4, 2) := by decide +kernel
theorem dM_part_52 : decode bM_part 52 = .ok (.invokevirtual 233, 3) := by decide +kernel
theorem dM_part_55 : decode bM_part 55 = .ok (.ifCond .eq 5, 3) := by decide +kernel
theorem dM_part_58 : decode bM_part 58 = .ok (.iconst 0, 1) := by decide +kernel
theorem dM_part_59 : decode bM_part 59 = .ok (.ireturn, 1) := by decide +kernel
theorem dM_poly_0 : decode bM_poly 0 = .ok (.aload_n 0, 1) := by decide +kernel
theorem dM_poly_1 : decode bM_poly 1 = .ok (.aload_n 0, 1) := by decide +kernel
theorem dM_poly_2 : decode bM_poly 2 = .ok (.invokevirtual 229, 3) := by decide +kernel
theorem dM_poly_5 : decode bM_poly 5 = .ok (.iconst 0, 1) := by decide +kernel
theorem dM_poly_6 : decode bM_poly 6 = .ok (.iconst 0, 1) := by decide +kernel
theorem dM_poly_7 : decode bM_poly 7 = .ok (.invokevirtual 233, 3) := by decide +kernel
theorem dM_poly_10 : decode bM_poly 10 = .ok (.ifCond .eq 5, 3) := by decide +kernel
theorem dM_poly_15 : decode bM_poly 15 = .ok (.aload_n 0, 1) := by decide +kernel
theorem dM_poly_16 : decode bM_poly 16 = .ok (.bipush 66, 2) := by decide +kernel
theorem dM_poly_18 : decode bM_poly 18 = .ok (.invokevirtual 95, 3) := by decide +kernel
theorem dM_poly_21 : decode bM_poly 21 = .ok (.aload_n 0, 1) := by decide +kernel
theorem dM_poly_22 : decode bM_poly 22 = .ok (.bipush 66, 2) := by decide +kernel
theorem dM_poly_24 : decode bM_poly 24 = .ok (.invokevirtual 237, 3) := by decide +kernel
theorem dM_poly_27 : decode bM_poly 27 = .ok (.ireturn, 1) := by decide +kernel
theorem dM_resultant_0 : decode bM_resultant 0 = .ok (.aload_n 0, 1) := by decide +kernel
theorem dM_resultant_1 : decode bM_resultant 1 = .ok (.iload_n 1, 1) := by decide +kernel
theorem dM_resultant_2 : decode bM_resultant 2 = .ok (.iload_n 2, 1) := by decide +kernel
theorem dM_resultant_3 : decode bM_resultant 3 = .ok (.invokevirtual 244, 3) := by decide +kernel
theorem dM_resultant_6 : decode bM_resultant 6 = .ok (.istore 4, 2) := by decide +kernel
theorem dM_resultant_8 : decode bM_resultant 8 = .ok (.iload 4, 2) := by decide +kernel
theorem dM_resultant_10 : decode bM_resultant 10 = .ok (.ifCond .ne 25, 3) := by decide +kernel
theorem dM_resultant_35 : decode bM_resultant 35 = .ok (.iconst 0, 1) := by decide +kernel
theorem dM_resultant_36 : decode bM_resultant 36 = .ok (.istore 5, 2) := by decide +kernel
theorem dM_resultant_38 : decode bM_resultant 38 = .ok (.aload_n 0, 1) := by decide +kernel
theorem dM_resultant_39 : decode bM_resultant 39 = .ok (.iload 4, 2) := by decide +kernel
theorem dM_resultant_41 : decode bM_resultant 41 = .ok (.aload_n 0, 1) := by decide +kernel
theorem dM_resultant_42 : decode bM_resultant 42 = .ok (.invokevirtual 229, 3) := by decide +kernel
theorem dM_resultant_45 : decode bM_resultant 45 = .ok (.iload 5, 2) := by decide +kernel
theorem dM_resultant_47 : decode bM_resultant 47 = .ok (.invokevirtual 233, 3) := by decide +kernel
theorem dM_resultant_50 : decode bM_resultant 50 = .ok (.ifCond .eq 5, 3) := by decide +kernel
theorem dM_resultant_53 : decode bM_resultant 53 = .ok (.iconst 0, 1) := by decide +kernel
theorem dM_resultant_54 : decode bM_resultant 54 = .ok (.ireturn, 1) := by decide +kernel
theorem dM_slope_0 : decode bM_slope 0 = .ok (.aload_n 0, 1) := by decide +kernel
theorem dM_slope_1 : decode bM_slope 1 = .ok (.aload_n 0, 1) := by decide +kernel
theorem dM_slope_2 : decode bM_slope 2 = .ok (.iload_n 1, 1) := by decide +kernel
theorem dM_slope_3 : decode bM_slope 3 = .ok (.invokevirtual 226, 3) := by decide +kernel
theorem dM_slope_6 : decode bM_slope 6 = .ok (.ifCond .ne 7, 3) := by decide +kernel
theorem dM_slope_9 : decode bM_slope 9 = .ok (.iconst 1, 1) := by decide +kernel
theorem dM_slope_10 : decode bM_slope 10 = .ok (.goto 4, 3) := by decide +kernel
theorem dM_slope_14 : decode bM_slope 14 = .ok (.aload_n 0, 1) := by decide +kernel
theorem dM_slope_15 : decode bM_slope 15 = .ok (.invokevirtual 229, 3) := by decide +kernel
theorem dM_slope_18 : decode bM_slope 18 = .ok (.aload_n 0, 1) := by decide +kernel
theorem dM_slope_19 : decode bM_slope 19 = .ok (.iload_n 2, 1) := by decide +kernel
theorem dM_slope_20 : decode bM_slope 20 = .ok (.invokevirtual 268, 3) := by decide +kernel
theorem dM_slope_23 : decode bM_slope 23 = .ok (.ifCond .ne 7, 3) := by decide +kernel
theorem dM_slope_26 : decode bM_slope 26 = .ok (.iconst 1, 1) := by decide +kernel
theorem dM_slope_27 : decode bM_slope 27 = .ok (.goto 4, 3) := by decide +kernel
theorem dM_slope_30 : decode bM_slope 30 = .ok (.iconst 0, 1) := by decide +kernel
theorem dM_slope_31 : decode bM_slope 31 = .ok (.invokevirtual 233, 3) := by decide +kernel
theorem dM_slope_34 : decode bM_slope 34 = .ok (.ifCond .eq 5, 3) := by decide +kernel
theorem dM_slope_37 : decode bM_slope 37 = .ok (.iconst 0, 1) := by decide +kernel
theorem dM_slope_38 : decode bM_slope 38 = .ok (.ireturn, 1) := by decide +kernel
theorem dM_term_0 : decode bM_term 0 = .ok (.aload_n 0, 1) := by decide +kernel
theorem dM_term_1 : decode bM_term 1 = .ok (.aload_n 0, 1) := by decide +kernel
theorem dM_term_2 : decode bM_term 2 = .ok (.iload_n 1, 1) := by decide +kernel
theorem dM_term_3 : decode bM_term 3 = .ok (.invokevirtual 226, 3) := by decide +kernel
theorem dM_term_6 : decode bM_term 6 = .ok (.ifCond .ne 7, 3) := by decide +kernel
theorem dM_term_9 : decode bM_term 9 = .ok (.iconst 1, 1) := by decide +kernel
theorem dM_term_10 : decode bM_term 10 = .ok (.goto 4, 3) := by decide +kernel
theorem dM_term_14 : decode bM_term 14 = .ok (.iload 6, 2) := by decide +kernel
theorem dM_term_16 : decode bM_term 16 = .ok (.ifCond .lt 16, 3) := by decide +kernel
theorem dM_term_19 : decode bM_term 19 = .ok (.iload 6, 2) := by decide +kernel
theorem dM_term_21 : decode bM_term 21 = .ok (.iconst 1, 1) := by decide +kernel
theorem dM_term_22 : decode bM_term 22 = .ok (.iconst 4, 1) := by decide +kernel
theorem dM_term_23 : decode bM_term 23 = .ok (.aload_n 0, 1) := by decide +kernel
theorem dM_term_24 : decode bM_term 24 = .ok (.getfield 65, 3) := by decide +kernel
theorem dM_term_27 : decode bM_term 27 = .ok (.imul, 1) := by decide +kernel
theorem dM_term_28 : decode bM_term 28 = .ok (.ishl, 1) := by decide +kernel
theorem dM_term_29 : decode bM_term 29 = .ok (.if_icmp .lt 7, 3) := by decide +kernel
theorem dM_term_32 : decode bM_term 32 = .ok (.iconst 1, 1) := by decide +kernel
theorem dM_term_33 : decode bM_term 33 = .ok (.goto 4, 3) := by decide +kernel
theorem dM_term_36 : decode bM_term 36 = .ok (.iconst 0, 1) := by decide +kernel
theorem dM_term_37 : decode bM_term 37 = .ok (.lload 4, 2) := by decide +kernel
theorem dM_term_39 : decode bM_term 39 = .ok (.invokestatic 240, 3) := by decide +kernel
theorem dM_term_42 : decode bM_term 42 = .ok (.ifCond .ne 7, 3) := by decide +kernel
theorem dM_term_45 : decode bM_term 45 = .ok (.iconst 1, 1) := by decide +kernel
theorem dM_term_46 : decode bM_term 46 = .ok (.goto 4, 3) := by decide +kernel
theorem dM_term_49 : decode bM_term 49 = .ok (.iconst 0, 1) := by decide +kernel
theorem dM_term_50 : decode bM_term 50 = .ok (.invokevirtual 233, 3) := by decide +kernel
theorem dM_term_53 : decode bM_term 53 = .ok (.ifCond .eq 5, 3) := by decide +kernel
theorem dM_term_56 : decode bM_term 56 = .ok (.iconst 0, 1) := by decide +kernel
theorem dM_term_57 : decode bM_term 57 = .ok (.ireturn, 1) := by decide +kernel
theorem dM_terms_0 : decode bM_terms 0 = .ok (.aload_n 0, 1) := by decide +kernel
theorem dM_terms_1 : decode bM_terms 1 = .ok (.aload_n 0, 1) := by decide +kernel
theorem dM_terms_2 : decode bM_terms 2 = .ok (.iload_n 1, 1) := by decide +kernel
theorem dM_terms_3 : decode bM_terms 3 = .ok (.invokevirtual 226, 3) := by decide +kernel
theorem dM_terms_6 : decode bM_terms 6 = .ok (.ifCond .ne 7, 3) := by decide +kernel
theorem dM_terms_9 : decode bM_terms 9 = .ok (.iconst 1, 1) := by decide +kernel
theorem dM_terms_10 : decode bM_terms 10 = .ok (.goto 4, 3) := by decide +kernel
theorem dM_terms_14 : decode bM_terms 14 = .ok (.iconst 0, 1) := by decide +kernel
theorem dM_terms_15 : decode bM_terms 15 = .ok (.iconst 0, 1) := by decide +kernel
theorem dM_terms_16 : decode bM_terms 16 = .ok (.invokevirtual 233, 3) := by decide +kernel
theorem dM_terms_19 : decode bM_terms 19 = .ok (.ifCond .eq 5, 3) := by decide +kernel
theorem dM_terms_22 : decode bM_terms 22 = .ok (.iconst 0, 1) := by decide +kernel
theorem dM_terms_23 : decode bM_terms 23 = .ok (.ireturn, 1) := by decide +kernel
theorem dM_thrown_0 : decode bM_thrown 0 = .ok (.aload_n 0, 1) := by decide +kernel
theorem dM_thrown_1 : decode bM_thrown 1 = .ok (.getfield 69, 3) := by decide +kernel
end
section
theorem dM_thrown_4 : decode bM_thrown 4 = .ok (.ireturn, 1) := by decide +kernel
theorem dM_times_0 : decode bM_times 0 = .ok (.aload_n 0, 1) := by decide +kernel
theorem dM_times_1 : decode bM_times 1 = .ok (.aload_n 0, 1) := by decide +kernel
theorem dM_times_2 : decode bM_times 2 = .ok (.iload_n 1, 1) := by decide +kernel
theorem dM_times_3 : decode bM_times 3 = .ok (.iload_n 2, 1) := by decide +kernel
theorem dM_times_4 : decode bM_times 4 = .ok (.invokevirtual 244, 3) := by decide +kernel
theorem dM_times_7 : decode bM_times 7 = .ok (.aload_n 0, 1) := by decide +kernel
theorem dM_times_8 : decode bM_times 8 = .ok (.invokevirtual 229, 3) := by decide +kernel
theorem dM_times_11 : decode bM_times 11 = .ok (.aload_n 0, 1) := by decide +kernel
theorem dM_times_12 : decode bM_times 12 = .ok (.iload_n 1, 1) := by decide +kernel
theorem dM_times_13 : decode bM_times 13 = .ok (.iload_n 2, 1) := by decide +kernel
theorem dM_times_14 : decode bM_times 14 = .ok (.invokevirtual 244, 3) := by decide +kernel
theorem dM_times_17 : decode bM_times 17 = .ok (.ifCond .ne 16, 3) := by decide +kernel
theorem dM_times_33 : decode bM_times 33 = .ok (.iconst 0, 1) := by decide +kernel
theorem dM_times_34 : decode bM_times 34 = .ok (.invokevirtual 233, 3) := by decide +kernel
theorem dM_times_37 : decode bM_times 37 = .ok (.ifCond .eq 5, 3) := by decide +kernel
theorem dM_times_40 : decode bM_times 40 = .ok (.iconst 0, 1) := by decide +kernel
theorem dM_times_41 : decode bM_times 41 = .ok (.ireturn, 1) := by decide +kernel
theorem dP_init_0 : decode bP_init 0 = .ok (.aload_n 0, 1) := by decide +kernel
theorem dP_init_1 : decode bP_init 1 = .ok (.invokespecial 3, 3) := by decide +kernel
theorem dP_init_4 : decode bP_init 4 = .ok (.iload_n 1, 1) := by decide +kernel
theorem dP_init_5 : decode bP_init 5 = .ok (.ifCond .ge 7, 3) := by decide +kernel
theorem dP_init_12 : decode bP_init 12 = .ok (.iload_n 1, 1) := by decide +kernel
theorem dP_init_13 : decode bP_init 13 = .ok (.istore_n 2, 1) := by decide +kernel
theorem dP_init_14 : decode bP_init 14 = .ok (.aload_n 0, 1) := by decide +kernel
theorem dP_init_15 : decode bP_init 15 = .ok (.iconst 0, 1) := by decide +kernel
theorem dP_init_16 : decode bP_init 16 = .ok (.putfield 9, 3) := by decide +kernel
theorem dP_init_19 : decode bP_init 19 = .ok (.aload_n 0, 1) := by decide +kernel
theorem dP_init_20 : decode bP_init 20 = .ok (.iload_n 2, 1) := by decide +kernel
theorem dP_init_21 : decode bP_init 21 = .ok (.newarray .int, 2) := by decide +kernel
theorem dP_init_23 : decode bP_init 23 = .ok (.putfield 15, 3) := by decide +kernel
theorem dP_init_26 : decode bP_init 26 = .ok (.aload_n 0, 1) := by decide +kernel
theorem dP_init_27 : decode bP_init 27 = .ok (.iload_n 2, 1) := by decide +kernel
theorem dP_init_28 : decode bP_init 28 = .ok (.newarray .int, 2) := by decide +kernel
theorem dP_init_30 : decode bP_init 30 = .ok (.putfield 19, 3) := by decide +kernel
theorem dP_init_33 : decode bP_init 33 = .ok (.return_, 1) := by decide +kernel
end
section
def B0 : List Cond := [Cond.classLink "ImageGcds" 137 th_X, Cond.initialized th_X, Cond.fieldLink "ImageGcds" 19 "ImageGcds" "made" "I", Cond.methodLink "ImageGcds" 32 yG_held, Cond.instanceMethod yG_held, Cond.selects "ImageGcds" yG_held yG_held, Cond.initialized "ImageGcds", Cond.code yG_held bG_held 2 (some (.object "ImageGcds$Poly")), Cond.classLink "ImageGcdsLaw" 19 th_X, Cond.methodLink "ImageGcdsLaw" 15 yG_term, Cond.instanceMethod yG_term, Cond.selects "ImageGcds" yG_term yG_term, Cond.code yG_term bG_term 10 (some .boolean), Cond.methodLink "ImageGcdsLaw" 25 yG_add, Cond.instanceMethod yG_add, Cond.selects "ImageGcds" yG_add yG_add, Cond.code yG_add bG_add 5 (some .int), Cond.methodLink "ImageGcdsLaw" 29 yG_times, Cond.instanceMethod yG_times, Cond.selects "ImageGcds" yG_times yG_times]
def B1 : List Cond := [Cond.code yG_times bG_times 5 (some .int), Cond.methodLink "ImageGcdsLaw" 32 yG_over, Cond.instanceMethod yG_over, Cond.selects "ImageGcds" yG_over yG_over, Cond.code yG_over bG_over 6 (some .int), Cond.methodLink "ImageGcdsLaw" 35 yG_gcd, Cond.instanceMethod yG_gcd, Cond.selects "ImageGcds" yG_gcd yG_gcd, Cond.code yG_gcd bG_gcd 5 (some .int), Cond.methodLink "ImageGcdsLaw" 38 yG_resultant, Cond.instanceMethod yG_resultant, Cond.selects "ImageGcds" yG_resultant yG_resultant, Cond.code yG_resultant bG_resultant 6 (some .int), Cond.methodLink "ImageGcdsLaw" 42 yG_slope, Cond.instanceMethod yG_slope, Cond.selects "ImageGcds" yG_slope yG_slope, Cond.code yG_slope bG_slope 4 (some .int), Cond.methodLink "ImageGcdsLaw" 45 yG_content, Cond.instanceMethod yG_content, Cond.selects "ImageGcds" yG_content yG_content]
def B2 : List Cond := [Cond.code yG_content bG_content 4 (some .int), Cond.methodLink "ImageGcdsLaw" 48 yG_part, Cond.instanceMethod yG_part, Cond.selects "ImageGcds" yG_part yG_part, Cond.code yG_part bG_part 4 (some .int), Cond.methodLink "ImageGcdsLaw" 51 yG_image, Cond.instanceMethod yG_image, Cond.selects "ImageGcds" yG_image yG_image, Cond.code yG_image bG_image 5 (some .int), Cond.methodLink "ImageGcdsLaw" 54 yG_equal, Cond.instanceMethod yG_equal, Cond.selects "ImageGcds" yG_equal yG_equal, Cond.code yG_equal bG_equal 5 (some .boolean), Cond.methodLink "ImageGcdsLaw" 58 yG_terms, Cond.instanceMethod yG_terms, Cond.selects "ImageGcds" yG_terms yG_terms, Cond.code yG_terms bG_terms 2 (some .int), Cond.methodLink "ImageGcdsLaw" 62 yG_at, Cond.instanceMethod yG_at, Cond.selects "ImageGcds" yG_at yG_at]
def B3 : List Cond := [Cond.code yG_at bG_at 5 (some .int), Cond.methodLink "ImageGcdsLaw" 65 yG_degree, Cond.instanceMethod yG_degree, Cond.selects "ImageGcds" yG_degree yG_degree, Cond.code yG_degree bG_degree 4 (some .int), Cond.constantLong "ImageGcdsModel" 72 (32003), Cond.fieldLink "ImageGcdsModel" 223 "ImageGcdsModel" "count" "I", Cond.fieldLink "ImageGcdsModel" 65 "ImageGcdsModel" "letters" "I", Cond.methodLink "ImageGcdsModel" 226 yM_isPoly, Cond.instanceMethod yM_isPoly, Cond.selects "ImageGcdsModel" yM_isPoly yM_isPoly, Cond.initialized "ImageGcdsModel", Cond.code yM_isPoly bM_isPoly 2 (some .boolean), Cond.fieldLink "ImageGcdsModel" 69 "ImageGcdsModel" "thrown" "I", Cond.methodLink "ImageGcdsModel" 240 yM_number, Cond.static yM_number, Cond.code yM_number bM_number 3 (some .int), Cond.methodLink "ImageGcdsModel" 233 yM_fails, Cond.instanceMethod yM_fails, Cond.selects "ImageGcdsModel" yM_fails yM_fails]
def B4 : List Cond := [Cond.code yM_fails bM_fails 4 (some .boolean), Cond.methodLink "ImageGcdsModel" 244 yM_areNot, Cond.instanceMethod yM_areNot, Cond.selects "ImageGcdsModel" yM_areNot yM_areNot, Cond.code yM_areNot bM_areNot 3 (some .boolean), Cond.methodLink "ImageGcdsModel" 229 yM_isFull, Cond.instanceMethod yM_isFull, Cond.selects "ImageGcdsModel" yM_isFull yM_isFull, Cond.code yM_isFull bM_isFull 1 (some .boolean), Cond.methodLink "ImageGcdsModel" 268 yM_isLetter, Cond.instanceMethod yM_isLetter, Cond.selects "ImageGcdsModel" yM_isLetter yM_isLetter, Cond.code yM_isLetter bM_isLetter 2 (some .boolean), Cond.methodLink "ImageGcds" 1 Lib.objectInit, Cond.instanceMethod Lib.objectInit, Cond.code Lib.objectInit ⟨#[0xb1]⟩ 1 none, Cond.fieldLink "ImageGcds" 9 "ImageGcds" "letters" "I", Cond.classLink "ImageGcds" 13 "ImageGcds$Poly", Cond.fieldLink "ImageGcds" 15 "ImageGcds" "polys" "[LImageGcds$Poly;", Cond.methodLink "ImageGcdsModel" 1 Lib.objectInit]
def B5 : List Cond := [Cond.constant "ImageGcdsModel" 7 (290816), Cond.arrayClass .int, Cond.fieldLink "ImageGcdsModel" 8 "ImageGcdsModel" "n" "[I", Cond.fieldLink "ImageGcdsModel" 14 "ImageGcdsModel" "two" "[I", Cond.fieldLink "ImageGcdsModel" 17 "ImageGcdsModel" "a" "[I", Cond.fieldLink "ImageGcdsModel" 20 "ImageGcdsModel" "b" "[I", Cond.fieldLink "ImageGcdsModel" 23 "ImageGcdsModel" "c" "[I", Cond.fieldLink "ImageGcdsModel" 26 "ImageGcdsModel" "point" "[I", Cond.fieldLink "ImageGcdsModel" 29 "ImageGcdsModel" "given" "[I", Cond.fieldLink "ImageGcdsModel" 32 "ImageGcdsModel" "whole" "[I", Cond.fieldLink "ImageGcdsModel" 35 "ImageGcdsModel" "pointsTwo" "[I", Cond.fieldLink "ImageGcdsModel" 38 "ImageGcdsModel" "valuesTwo" "[I", Cond.fieldLink "ImageGcdsModel" 41 "ImageGcdsModel" "pointsY" "[I", Cond.fieldLink "ImageGcdsModel" 44 "ImageGcdsModel" "valuesY" "[I", Cond.fieldLink "ImageGcdsModel" 47 "ImageGcdsModel" "pointsZ" "[I", Cond.fieldLink "ImageGcdsModel" 50 "ImageGcdsModel" "valuesZ" "[I", Cond.fieldLink "ImageGcdsModel" 53 "ImageGcdsModel" "grid" "[I", Cond.fieldLink "ImageGcdsModel" 56 "ImageGcdsModel" "planeA" "[I", Cond.fieldLink "ImageGcdsModel" 59 "ImageGcdsModel" "planeB" "[I", Cond.fieldLink "ImageGcdsModel" 62 "ImageGcdsModel" "matrix" "[I"]
def B6 : List Cond := [Cond.methodLink "ImageGcds$Poly" 3 Lib.objectInit, Cond.fieldLink "ImageGcds$Poly" 9 "ImageGcds$Poly" "size" "I", Cond.fieldLink "ImageGcds$Poly" 15 "ImageGcds$Poly" "keys" "[I", Cond.fieldLink "ImageGcds$Poly" 19 "ImageGcds$Poly" "numbers" "[I", Cond.methodLink "ImageGcdsModel" 99 yM_copy, Cond.instanceMethod yM_copy, Cond.selects "ImageGcdsModel" yM_copy yM_copy, Cond.code yM_copy bM_copy 4 none, Cond.methodLink "ImageGcdsModel" 95 yM_clear, Cond.instanceMethod yM_clear, Cond.selects "ImageGcdsModel" yM_clear yM_clear, Cond.code yM_clear bM_clear 3 none, Cond.methodLink "ImageGcdsModel" 237 yM_made, Cond.instanceMethod yM_made, Cond.selects "ImageGcdsModel" yM_made yM_made, Cond.code yM_made bM_made 2 (some .int), Cond.methodLink "ImageGcds" 22 yG_requireRoom, Cond.instanceMethod yG_requireRoom, Cond.selects "ImageGcds" yG_requireRoom yG_requireRoom, Cond.code yG_requireRoom bG_requireRoom 1 none]
def B7 : List Cond := [Cond.instantiable "ImageGcds$Poly" 3, Cond.initialized "ImageGcds$Poly", Cond.code yP_init bP_init 3 none, Cond.methodLink "ImageGcds" 25 yP_init, Cond.instanceMethod yP_init, Cond.methodLink "ImageGcds" 28 yG_keep, Cond.instanceMethod yG_keep, Cond.selects "ImageGcds" yG_keep yG_keep, Cond.code yG_keep bG_keep 2 (some .int), Cond.methodLink "ImageGcdsLaw" 7 yG_poly, Cond.instanceMethod yG_poly, Cond.selects "ImageGcds" yG_poly yG_poly, Cond.code yG_poly bG_poly 1 (some .int)]
def thW : List Cond := (Bundle.ownAtoms "ImageGcds" 141 th_X th_N).filter goodWord
def W0 : List Cond := B0 ++ (B1 ++ (B2 ++ (B3 ++ (B4 ++ (B5 ++ (B6 ++ (B7 ++ (wUG ++ (wUP ++ (wUM ++ (thW)))))))))))
theorem k0 : Cond.classLink "ImageGcds" 137 th_X ∈ W0 := (List.mem_append_left _ (List.mem_of_getElem? (l := B0) (i := 0) rfl))
theorem k1 : Cond.initialized th_X ∈ W0 := (List.mem_append_left _ (List.mem_of_getElem? (l := B0) (i := 1) rfl))
theorem k2 : Cond.fieldLink "ImageGcds" 19 "ImageGcds" "made" "I" ∈ W0 := (List.mem_append_left _ (List.mem_of_getElem? (l := B0) (i := 2) rfl))
theorem k3 : Cond.methodLink "ImageGcds" 32 yG_held ∈ W0 := (List.mem_append_left _ (List.mem_of_getElem? (l := B0) (i := 3) rfl))
theorem k4 : Cond.instanceMethod yG_held ∈ W0 := (List.mem_append_left _ (List.mem_of_getElem? (l := B0) (i := 4) rfl))
theorem k5 : Cond.selects "ImageGcds" yG_held yG_held ∈ W0 := (List.mem_append_left _ (List.mem_of_getElem? (l := B0) (i := 5) rfl))
theorem k6 : Cond.initialized "ImageGcds" ∈ W0 := (List.mem_append_left _ (List.mem_of_getElem? (l := B0) (i := 6) rfl))
theorem k7 : Cond.code yG_held bG_held 2 (some (.object "ImageGcds$Poly")) ∈ W0 := (List.mem_append_left _ (List.mem_of_getElem? (l := B0) (i := 7) rfl))
theorem k8 : Cond.classLink "ImageGcdsLaw" 19 th_X ∈ W0 := (List.mem_append_left _ (List.mem_of_getElem? (l := B0) (i := 8) rfl))
theorem k9 : Cond.methodLink "ImageGcdsLaw" 15 yG_term ∈ W0 := (List.mem_append_left _ (List.mem_of_getElem? (l := B0) (i := 9) rfl))
theorem k10 : Cond.instanceMethod yG_term ∈ W0 := (List.mem_append_left _ (List.mem_of_getElem? (l := B0) (i := 10) rfl))
theorem k11 : Cond.selects "ImageGcds" yG_term yG_term ∈ W0 := (List.mem_append_left _ (List.mem_of_getElem? (l := B0) (i := 11) rfl))
theorem k12 : Cond.code yG_term bG_term 10 (some .boolean) ∈ W0 := (List.mem_append_left _ (List.mem_of_getElem? (l := B0) (i := 12) rfl))
theorem k13 : Cond.methodLink "ImageGcdsLaw" 25 yG_add ∈ W0 := (List.mem_append_left _ (List.mem_of_getElem? (l := B0) (i := 13) rfl))
theorem k14 : Cond.instanceMethod yG_add ∈ W0 := (List.mem_append_left _ (List.mem_of_getElem? (l := B0) (i := 14) rfl))
theorem k15 : Cond.selects "ImageGcds" yG_add yG_add ∈ W0 := (List.mem_append_left _ (List.mem_of_getElem? (l := B0) (i := 15) rfl))
theorem k16 : Cond.code yG_add bG_add 5 (some .int) ∈ W0 := (List.mem_append_left _ (List.mem_of_getElem? (l := B0) (i := 16) rfl))
theorem k17 : Cond.methodLink "ImageGcdsLaw" 29 yG_times ∈ W0 := (List.mem_append_left _ (List.mem_of_getElem? (l := B0) (i := 17) rfl))
theorem k18 : Cond.instanceMethod yG_times ∈ W0 := (List.mem_append_left _ (List.mem_of_getElem? (l := B0) (i := 18) rfl))
theorem k19 : Cond.selects "ImageGcds" yG_times yG_times ∈ W0 := (List.mem_append_left _ (List.mem_of_getElem? (l := B0) (i := 19) rfl))
theorem k20 : Cond.code yG_times bG_times 5 (some .int) ∈ W0 := (List.mem_append_right _ (List.mem_append_left _ (List.mem_of_getElem? (l := B1) (i := 0) rfl)))
theorem k21 : Cond.methodLink "ImageGcdsLaw" 32 yG_over ∈ W0 := (List.mem_append_right _ (List.mem_append_left _ (List.mem_of_getElem? (l := B1) (i := 1) rfl)))
theorem k22 : Cond.instanceMethod yG_over ∈ W0 := (List.mem_append_right _ (List.mem_append_left _ (List.mem_of_getElem? (l := B1) (i := 2) rfl)))
theorem k23 : Cond.selects "ImageGcds" yG_over yG_over ∈ W0 := (List.mem_append_right _ (List.mem_append_left _ (List.mem_of_getElem? (l := B1) (i := 3) rfl)))
theorem k24 : Cond.code yG_over bG_over 6 (some .int) ∈ W0 := (List.mem_append_right _ (List.mem_append_left _ (List.mem_of_getElem? (l := B1) (i := 4) rfl)))
theorem k25 : Cond.methodLink "ImageGcdsLaw" 35 yG_gcd ∈ W0 := (List.mem_append_right _ (List.mem_append_left _ (List.mem_of_getElem? (l := B1) (i := 5) rfl)))
theorem k26 : Cond.instanceMethod yG_gcd ∈ W0 := (List.mem_append_right _ (List.mem_append_left _ (List.mem_of_getElem? (l := B1) (i := 6) rfl)))
theorem k27 : Cond.selects "ImageGcds" yG_gcd yG_gcd ∈ W0 := (List.mem_append_right _ (List.mem_append_left _ (List.mem_of_getElem? (l := B1) (i := 7) rfl)))
theorem k28 : Cond.code yG_gcd bG_gcd 5 (some .int) ∈ W0 := (List.mem_append_right _ (List.mem_append_left _ (List.mem_of_getElem? (l := B1) (i := 8) rfl)))
theorem k29 : Cond.methodLink "ImageGcdsLaw" 38 yG_resultant ∈ W0 := (List.mem_append_right _ (List.mem_append_left _ (List.mem_of_getElem? (l := B1) (i := 9) rfl)))
theorem k30 : Cond.instanceMethod yG_resultant ∈ W0 := (List.mem_append_right _ (List.mem_append_left _ (List.mem_of_getElem? (l := B1) (i := 10) rfl)))
theorem k31 : Cond.selects "ImageGcds" yG_resultant yG_resultant ∈ W0 := (List.mem_append_right _ (List.mem_append_left _ (List.mem_of_getElem? (l := B1) (i := 11) rfl)))
theorem k32 : Cond.code yG_resultant bG_resultant 6 (some .int) ∈ W0 := (List.mem_append_right _ (List.mem_append_left _ (List.mem_of_getElem? (l := B1) (i := 12) rfl)))
theorem k33 : Cond.methodLink "ImageGcdsLaw" 42 yG_slope ∈ W0 := (List.mem_append_right _ (List.mem_append_left _ (List.mem_of_getElem? (l := B1) (i := 13) rfl)))
theorem k34 : Cond.instanceMethod yG_slope ∈ W0 := (List.mem_append_right _ (List.mem_append_left _ (List.mem_of_getElem? (l := B1) (i := 14) rfl)))
theorem k35 : Cond.selects "ImageGcds" yG_slope yG_slope ∈ W0 := (List.mem_append_right _ (List.mem_append_left _ (List.mem_of_getElem? (l := B1) (i := 15) rfl)))
theorem k36 : Cond.code yG_slope bG_slope 4 (some .int) ∈ W0 := (List.mem_append_right _ (List.mem_append_left _ (List.mem_of_getElem? (l := B1) (i := 16) rfl)))
theorem k37 : Cond.methodLink "ImageGcdsLaw" 45 yG_content ∈ W0 := (List.mem_append_right _ (List.mem_append_left _ (List.mem_of_getElem? (l := B1) (i := 17) rfl)))
theorem k38 : Cond.instanceMethod yG_content ∈ W0 := (List.mem_append_right _ (List.mem_append_left _ (List.mem_of_getElem? (l := B1) (i := 18) rfl)))
theorem k39 : Cond.selects "ImageGcds" yG_content yG_content ∈ W0 := (List.mem_append_right _ (List.mem_append_left _ (List.mem_of_getElem? (l := B1) (i := 19) rfl)))
theorem k40 : Cond.code yG_content bG_content 4 (some .int) ∈ W0 := (List.mem_append_right _ (List.mem_append_right _ (List.mem_append_left _ (List.mem_of_getElem? (l := B2) (i := 0) rfl))))
theorem k41 : Cond.methodLink "ImageGcdsLaw" 48 yG_part ∈ W0 := (List.mem_append_right _ (List.mem_append_right _ (List.mem_append_left _ (List.mem_of_getElem? (l := B2) (i := 1) rfl))))
theorem k42 : Cond.instanceMethod yG_part ∈ W0 := (List.mem_append_right _ (List.mem_append_right _ (List.mem_append_left _ (List.mem_of_getElem? (l := B2) (i := 2) rfl))))
theorem k43 : Cond.selects "ImageGcds" yG_part yG_part ∈ W0 := (List.mem_append_right _ (List.mem_append_right _ (List.mem_append_left _ (List.mem_of_getElem? (l := B2) (i := 3) rfl))))
theorem k44 : Cond.code yG_part bG_part 4 (some .int) ∈ W0 := (List.mem_append_right _ (List.mem_append_right _ (List.mem_append_left _ (List.mem_of_getElem? (l := B2) (i := 4) rfl))))
theorem k45 : Cond.methodLink "ImageGcdsLaw" 51 yG_image ∈ W0 := (List.mem_append_right _ (List.mem_append_right _ (List.mem_append_left _ (List.mem_of_getElem? (l := B2) (i := 5) rfl))))
theorem k46 : Cond.instanceMethod yG_image ∈ W0 := (List.mem_append_right _ (List.mem_append_right _ (List.mem_append_left _ (List.mem_of_getElem? (l := B2) (i := 6) rfl))))
theorem k47 : Cond.selects "ImageGcds" yG_image yG_image ∈ W0 := (List.mem_append_right _ (List.mem_append_right _ (List.mem_append_left _ (List.mem_of_getElem? (l := B2) (i := 7) rfl))))
theorem k48 : Cond.code yG_image bG_image 5 (some .int) ∈ W0 := (List.mem_append_right _ (List.mem_append_right _ (List.mem_append_left _ (List.mem_of_getElem? (l := B2) (i := 8) rfl))))
theorem k49 : Cond.methodLink "ImageGcdsLaw" 54 yG_equal ∈ W0 := (List.mem_append_right _ (List.mem_append_right _ (List.mem_append_left _ (List.mem_of_getElem? (l := B2) (i := 9) rfl))))
theorem k50 : Cond.instanceMethod yG_equal ∈ W0 := (List.mem_append_right _ (List.mem_append_right _ (List.mem_append_left _ (List.mem_of_getElem? (l := B2) (i := 10) rfl))))
theorem k51 : Cond.selects "ImageGcds" yG_equal yG_equal ∈ W0 := (List.mem_append_right _ (List.mem_append_right _ (List.mem_append_left _ (List.mem_of_getElem? (l := B2) (i := 11) rfl))))
theorem k52 : Cond.code yG_equal bG_equal 5 (some .boolean) ∈ W0 := (List.mem_append_right _ (List.mem_append_right _ (List.mem_append_left _ (List.mem_of_getElem? (l := B2) (i := 12) rfl))))
theorem k53 : Cond.methodLink "ImageGcdsLaw" 58 yG_terms ∈ W0 := (List.mem_append_right _ (List.mem_append_right _ (List.mem_append_left _ (List.mem_of_getElem? (l := B2) (i := 13) rfl))))
theorem k54 : Cond.instanceMethod yG_terms ∈ W0 := (List.mem_append_right _ (List.mem_append_right _ (List.mem_append_left _ (List.mem_of_getElem? (l := B2) (i := 14) rfl))))
theorem k55 : Cond.selects "ImageGcds" yG_terms yG_terms ∈ W0 := (List.mem_append_right _ (List.mem_append_right _ (List.mem_append_left _ (List.mem_of_getElem? (l := B2) (i := 15) rfl))))
theorem k56 : Cond.code yG_terms bG_terms 2 (some .int) ∈ W0 := (List.mem_append_right _ (List.mem_append_right _ (List.mem_append_left _ (List.mem_of_getElem? (l := B2) (i := 16) rfl))))
theorem k57 : Cond.methodLink "ImageGcdsLaw" 62 yG_at ∈ W0 := (List.mem_append_right _ (List.mem_append_right _ (List.mem_append_left _ (List.mem_of_getElem? (l := B2) (i := 17) rfl))))
theorem k58 : Cond.instanceMethod yG_at ∈ W0 := (List.mem_append_right _ (List.mem_append_right _ (List.mem_append_left _ (List.mem_of_getElem? (l := B2) (i := 18) rfl))))
theorem k59 : Cond.selects "ImageGcds" yG_at yG_at ∈ W0 := (List.mem_append_right _ (List.mem_append_right _ (List.mem_append_left _ (List.mem_of_getElem? (l := B2) (i := 19) rfl))))
theorem k60 : Cond.code yG_at bG_at 5 (some .int) ∈ W0 := (List.mem_append_right _ (List.mem_append_right _ (List.mem_append_right _ (List.mem_append_left _ (List.mem_of_getElem? (l := B3) (i := 0) rfl)))))
theorem k61 : Cond.methodLink "ImageGcdsLaw" 65 yG_degree ∈ W0 := (List.mem_append_right _ (List.mem_append_right _ (List.mem_append_right _ (List.mem_append_left _ (List.mem_of_getElem? (l := B3) (i := 1) rfl)))))
theorem k62 : Cond.instanceMethod yG_degree ∈ W0 := (List.mem_append_right _ (List.mem_append_right _ (List.mem_append_right _ (List.mem_append_left _ (List.mem_of_getElem? (l := B3) (i := 2) rfl)))))
theorem k63 : Cond.selects "ImageGcds" yG_degree yG_degree ∈ W0 := (List.mem_append_right _ (List.mem_append_right _ (List.mem_append_right _ (List.mem_append_left _ (List.mem_of_getElem? (l := B3) (i := 3) rfl)))))
theorem k64 : Cond.code yG_degree bG_degree 4 (some .int) ∈ W0 := (List.mem_append_right _ (List.mem_append_right _ (List.mem_append_right _ (List.mem_append_left _ (List.mem_of_getElem? (l := B3) (i := 4) rfl)))))
theorem k65 : Cond.constantLong "ImageGcdsModel" 72 (32003) ∈ W0 := (List.mem_append_right _ (List.mem_append_right _ (List.mem_append_right _ (List.mem_append_left _ (List.mem_of_getElem? (l := B3) (i := 5) rfl)))))
theorem k66 : Cond.fieldLink "ImageGcdsModel" 223 "ImageGcdsModel" "count" "I" ∈ W0 := (List.mem_append_right _ (List.mem_append_right _ (List.mem_append_right _ (List.mem_append_left _ (List.mem_of_getElem? (l := B3) (i := 6) rfl)))))
theorem k67 : Cond.fieldLink "ImageGcdsModel" 65 "ImageGcdsModel" "letters" "I" ∈ W0 := (List.mem_append_right _ (List.mem_append_right _ (List.mem_append_right _ (List.mem_append_left _ (List.mem_of_getElem? (l := B3) (i := 7) rfl)))))
theorem k68 : Cond.methodLink "ImageGcdsModel" 226 yM_isPoly ∈ W0 := (List.mem_append_right _ (List.mem_append_right _ (List.mem_append_right _ (List.mem_append_left _ (List.mem_of_getElem? (l := B3) (i := 8) rfl)))))
theorem k69 : Cond.instanceMethod yM_isPoly ∈ W0 := (List.mem_append_right _ (List.mem_append_right _ (List.mem_append_right _ (List.mem_append_left _ (List.mem_of_getElem? (l := B3) (i := 9) rfl)))))
theorem k70 : Cond.selects "ImageGcdsModel" yM_isPoly yM_isPoly ∈ W0 := (List.mem_append_right _ (List.mem_append_right _ (List.mem_append_right _ (List.mem_append_left _ (List.mem_of_getElem? (l := B3) (i := 10) rfl)))))
theorem k71 : Cond.initialized "ImageGcdsModel" ∈ W0 := (List.mem_append_right _ (List.mem_append_right _ (List.mem_append_right _ (List.mem_append_left _ (List.mem_of_getElem? (l := B3) (i := 11) rfl)))))
theorem k72 : Cond.code yM_isPoly bM_isPoly 2 (some .boolean) ∈ W0 := (List.mem_append_right _ (List.mem_append_right _ (List.mem_append_right _ (List.mem_append_left _ (List.mem_of_getElem? (l := B3) (i := 12) rfl)))))
theorem k73 : Cond.fieldLink "ImageGcdsModel" 69 "ImageGcdsModel" "thrown" "I" ∈ W0 := (List.mem_append_right _ (List.mem_append_right _ (List.mem_append_right _ (List.mem_append_left _ (List.mem_of_getElem? (l := B3) (i := 13) rfl)))))
theorem k74 : Cond.methodLink "ImageGcdsModel" 240 yM_number ∈ W0 := (List.mem_append_right _ (List.mem_append_right _ (List.mem_append_right _ (List.mem_append_left _ (List.mem_of_getElem? (l := B3) (i := 14) rfl)))))
theorem k75 : Cond.static yM_number ∈ W0 := (List.mem_append_right _ (List.mem_append_right _ (List.mem_append_right _ (List.mem_append_left _ (List.mem_of_getElem? (l := B3) (i := 15) rfl)))))
theorem k76 : Cond.code yM_number bM_number 3 (some .int) ∈ W0 := (List.mem_append_right _ (List.mem_append_right _ (List.mem_append_right _ (List.mem_append_left _ (List.mem_of_getElem? (l := B3) (i := 16) rfl)))))
theorem k77 : Cond.methodLink "ImageGcdsModel" 233 yM_fails ∈ W0 := (List.mem_append_right _ (List.mem_append_right _ (List.mem_append_right _ (List.mem_append_left _ (List.mem_of_getElem? (l := B3) (i := 17) rfl)))))
theorem k78 : Cond.instanceMethod yM_fails ∈ W0 := (List.mem_append_right _ (List.mem_append_right _ (List.mem_append_right _ (List.mem_append_left _ (List.mem_of_getElem? (l := B3) (i := 18) rfl)))))
theorem k79 : Cond.selects "ImageGcdsModel" yM_fails yM_fails ∈ W0 := (List.mem_append_right _ (List.mem_append_right _ (List.mem_append_right _ (List.mem_append_left _ (List.mem_of_getElem? (l := B3) (i := 19) rfl)))))
theorem k80 : Cond.code yM_fails bM_fails 4 (some .boolean) ∈ W0 := (List.mem_append_right _ (List.mem_append_right _ (List.mem_append_right _ (List.mem_append_right _ (List.mem_append_left _ (List.mem_of_getElem? (l := B4) (i := 0) rfl))))))
theorem k81 : Cond.methodLink "ImageGcdsModel" 244 yM_areNot ∈ W0 := (List.mem_append_right _ (List.mem_append_right _ (List.mem_append_right _ (List.mem_append_right _ (List.mem_append_left _ (List.mem_of_getElem? (l := B4) (i := 1) rfl))))))
theorem k82 : Cond.instanceMethod yM_areNot ∈ W0 := (List.mem_append_right _ (List.mem_append_right _ (List.mem_append_right _ (List.mem_append_right _ (List.mem_append_left _ (List.mem_of_getElem? (l := B4) (i := 2) rfl))))))
theorem k83 : Cond.selects "ImageGcdsModel" yM_areNot yM_areNot ∈ W0 := (List.mem_append_right _ (List.mem_append_right _ (List.mem_append_right _ (List.mem_append_right _ (List.mem_append_left _ (List.mem_of_getElem? (l := B4) (i := 3) rfl))))))
theorem k84 : Cond.code yM_areNot bM_areNot 3 (some .boolean) ∈ W0 := (List.mem_append_right _ (List.mem_append_right _ (List.mem_append_right _ (List.mem_append_right _ (List.mem_append_left _ (List.mem_of_getElem? (l := B4) (i := 4) rfl))))))
theorem k85 : Cond.methodLink "ImageGcdsModel" 229 yM_isFull ∈ W0 := (List.mem_append_right _ (List.mem_append_right _ (List.mem_append_right _ (List.mem_append_right _ (List.mem_append_left _ (List.mem_of_getElem? (l := B4) (i := 5) rfl))))))
theorem k86 : Cond.instanceMethod yM_isFull ∈ W0 := (List.mem_append_right _ (List.mem_append_right _ (List.mem_append_right _ (List.mem_append_right _ (List.mem_append_left _ (List.mem_of_getElem? (l := B4) (i := 6) rfl))))))
theorem k87 : Cond.selects "ImageGcdsModel" yM_isFull yM_isFull ∈ W0 := (List.mem_append_right _ (List.mem_append_right _ (List.mem_append_right _ (List.mem_append_right _ (List.mem_append_left _ (List.mem_of_getElem? (l := B4) (i := 7) rfl))))))
theorem k88 : Cond.code yM_isFull bM_isFull 1 (some .boolean) ∈ W0 := (List.mem_append_right _ (List.mem_append_right _ (List.mem_append_right _ (List.mem_append_right _ (List.mem_append_left _ (List.mem_of_getElem? (l := B4) (i := 8) rfl))))))
theorem k89 : Cond.methodLink "ImageGcdsModel" 268 yM_isLetter ∈ W0 := (List.mem_append_right _ (List.mem_append_right _ (List.mem_append_right _ (List.mem_append_right _ (List.mem_append_left _ (List.mem_of_getElem? (l := B4) (i := 9) rfl))))))
theorem k90 : Cond.instanceMethod yM_isLetter ∈ W0 := (List.mem_append_right _ (List.mem_append_right _ (List.mem_append_right _ (List.mem_append_right _ (List.mem_append_left _ (List.mem_of_getElem? (l := B4) (i := 10) rfl))))))
theorem k91 : Cond.selects "ImageGcdsModel" yM_isLetter yM_isLetter ∈ W0 := (List.mem_append_right _ (List.mem_append_right _ (List.mem_append_right _ (List.mem_append_right _ (List.mem_append_left _ (List.mem_of_getElem? (l := B4) (i := 11) rfl))))))
theorem k92 : Cond.code yM_isLetter bM_isLetter 2 (some .boolean) ∈ W0 := (List.mem_append_right _ (List.mem_append_right _ (List.mem_append_right _ (List.mem_append_right _ (List.mem_append_left _ (List.mem_of_getElem? (l := B4) (i := 12) rfl))))))
theorem k93 : Cond.methodLink "ImageGcds" 1 Lib.objectInit ∈ W0 := (List.mem_append_right _ (List.mem_append_right _ (List.mem_append_right _ (List.mem_append_right _ (List.mem_append_left _ (List.mem_of_getElem? (l := B4) (i := 13) rfl))))))
theorem k94 : Cond.instanceMethod Lib.objectInit ∈ W0 := (List.mem_append_right _ (List.mem_append_right _ (List.mem_append_right _ (List.mem_append_right _ (List.mem_append_left _ (List.mem_of_getElem? (l := B4) (i := 14) rfl))))))
theorem k95 : Cond.code Lib.objectInit ⟨#[0xb1]⟩ 1 none ∈ W0 := (List.mem_append_right _ (List.mem_append_right _ (List.mem_append_right _ (List.mem_append_right _ (List.mem_append_left _ (List.mem_of_getElem? (l := B4) (i := 15) rfl))))))
theorem k96 : Cond.fieldLink "ImageGcds" 9 "ImageGcds" "letters" "I" ∈ W0 := (List.mem_append_right _ (List.mem_append_right _ (List.mem_append_right _ (List.mem_append_right _ (List.mem_append_left _ (List.mem_of_getElem? (l := B4) (i := 16) rfl))))))
theorem k97 : Cond.classLink "ImageGcds" 13 "ImageGcds$Poly" ∈ W0 := (List.mem_append_right _ (List.mem_append_right _ (List.mem_append_right _ (List.mem_append_right _ (List.mem_append_left _ (List.mem_of_getElem? (l := B4) (i := 17) rfl))))))
theorem k98 : Cond.fieldLink "ImageGcds" 15 "ImageGcds" "polys" "[LImageGcds$Poly;" ∈ W0 := (List.mem_append_right _ (List.mem_append_right _ (List.mem_append_right _ (List.mem_append_right _ (List.mem_append_left _ (List.mem_of_getElem? (l := B4) (i := 18) rfl))))))
theorem k99 : Cond.methodLink "ImageGcdsModel" 1 Lib.objectInit ∈ W0 := (List.mem_append_right _ (List.mem_append_right _ (List.mem_append_right _ (List.mem_append_right _ (List.mem_append_left _ (List.mem_of_getElem? (l := B4) (i := 19) rfl))))))
theorem k100 : Cond.constant "ImageGcdsModel" 7 (290816) ∈ W0 := (List.mem_append_right _ (List.mem_append_right _ (List.mem_append_right _ (List.mem_append_right _ (List.mem_append_right _ (List.mem_append_left _ (List.mem_of_getElem? (l := B5) (i := 0) rfl)))))))
theorem k101 : Cond.arrayClass .int ∈ W0 := (List.mem_append_right _ (List.mem_append_right _ (List.mem_append_right _ (List.mem_append_right _ (List.mem_append_right _ (List.mem_append_left _ (List.mem_of_getElem? (l := B5) (i := 1) rfl)))))))
theorem k102 : Cond.fieldLink "ImageGcdsModel" 8 "ImageGcdsModel" "n" "[I" ∈ W0 := (List.mem_append_right _ (List.mem_append_right _ (List.mem_append_right _ (List.mem_append_right _ (List.mem_append_right _ (List.mem_append_left _ (List.mem_of_getElem? (l := B5) (i := 2) rfl)))))))
theorem k103 : Cond.fieldLink "ImageGcdsModel" 14 "ImageGcdsModel" "two" "[I" ∈ W0 := (List.mem_append_right _ (List.mem_append_right _ (List.mem_append_right _ (List.mem_append_right _ (List.mem_append_right _ (List.mem_append_left _ (List.mem_of_getElem? (l := B5) (i := 3) rfl)))))))
theorem k104 : Cond.fieldLink "ImageGcdsModel" 17 "ImageGcdsModel" "a" "[I" ∈ W0 := (List.mem_append_right _ (List.mem_append_right _ (List.mem_append_right _ (List.mem_append_right _ (List.mem_append_right _ (List.mem_append_left _ (List.mem_of_getElem? (l := B5) (i := 4) rfl)))))))
theorem k105 : Cond.fieldLink "ImageGcdsModel" 20 "ImageGcdsModel" "b" "[I" ∈ W0 := (List.mem_append_right _ (List.mem_append_right _ (List.mem_append_right _ (List.mem_append_right _ (List.mem_append_right _ (List.mem_append_left _ (List.mem_of_getElem? (l := B5) (i := 5) rfl)))))))
theorem k106 : Cond.fieldLink "ImageGcdsModel" 23 "ImageGcdsModel" "c" "[I" ∈ W0 := (List.mem_append_right _ (List.mem_append_right _ (List.mem_append_right _ (List.mem_append_right _ (List.mem_append_right _ (List.mem_append_left _ (List.mem_of_getElem? (l := B5) (i := 6) rfl)))))))
theorem k107 : Cond.fieldLink "ImageGcdsModel" 26 "ImageGcdsModel" "point" "[I" ∈ W0 := (List.mem_append_right _ (List.mem_append_right _ (List.mem_append_right _ (List.mem_append_right _ (List.mem_append_right _ (List.mem_append_left _ (List.mem_of_getElem? (l := B5) (i := 7) rfl)))))))
theorem k108 : Cond.fieldLink "ImageGcdsModel" 29 "ImageGcdsModel" "given" "[I" ∈ W0 := (List.mem_append_right _ (List.mem_append_right _ (List.mem_append_right _ (List.mem_append_right _ (List.mem_append_right _ (List.mem_append_left _ (List.mem_of_getElem? (l := B5) (i := 8) rfl)))))))
theorem k109 : Cond.fieldLink "ImageGcdsModel" 32 "ImageGcdsModel" "whole" "[I" ∈ W0 := (List.mem_append_right _ (List.mem_append_right _ (List.mem_append_right _ (List.mem_append_right _ (List.mem_append_right _ (List.mem_append_left _ (List.mem_of_getElem? (l := B5) (i := 9) rfl)))))))
theorem k110 : Cond.fieldLink "ImageGcdsModel" 35 "ImageGcdsModel" "pointsTwo" "[I" ∈ W0 := (List.mem_append_right _ (List.mem_append_right _ (List.mem_append_right _ (List.mem_append_right _ (List.mem_append_right _ (List.mem_append_left _ (List.mem_of_getElem? (l := B5) (i := 10) rfl)))))))
theorem k111 : Cond.fieldLink "ImageGcdsModel" 38 "ImageGcdsModel" "valuesTwo" "[I" ∈ W0 := (List.mem_append_right _ (List.mem_append_right _ (List.mem_append_right _ (List.mem_append_right _ (List.mem_append_right _ (List.mem_append_left _ (List.mem_of_getElem? (l := B5) (i := 11) rfl)))))))
theorem k112 : Cond.fieldLink "ImageGcdsModel" 41 "ImageGcdsModel" "pointsY" "[I" ∈ W0 := (List.mem_append_right _ (List.mem_append_right _ (List.mem_append_right _ (List.mem_append_right _ (List.mem_append_right _ (List.mem_append_left _ (List.mem_of_getElem? (l := B5) (i := 12) rfl)))))))
theorem k113 : Cond.fieldLink "ImageGcdsModel" 44 "ImageGcdsModel" "valuesY" "[I" ∈ W0 := (List.mem_append_right _ (List.mem_append_right _ (List.mem_append_right _ (List.mem_append_right _ (List.mem_append_right _ (List.mem_append_left _ (List.mem_of_getElem? (l := B5) (i := 13) rfl)))))))
theorem k114 : Cond.fieldLink "ImageGcdsModel" 47 "ImageGcdsModel" "pointsZ" "[I" ∈ W0 := (List.mem_append_right _ (List.mem_append_right _ (List.mem_append_right _ (List.mem_append_right _ (List.mem_append_right _ (List.mem_append_left _ (List.mem_of_getElem? (l := B5) (i := 14) rfl)))))))
theorem k115 : Cond.fieldLink "ImageGcdsModel" 50 "ImageGcdsModel" "valuesZ" "[I" ∈ W0 := (List.mem_append_right _ (List.mem_append_right _ (List.mem_append_right _ (List.mem_append_right _ (List.mem_append_right _ (List.mem_append_left _ (List.mem_of_getElem? (l := B5) (i := 15) rfl)))))))
theorem k116 : Cond.fieldLink "ImageGcdsModel" 53 "ImageGcdsModel" "grid" "[I" ∈ W0 := (List.mem_append_right _ (List.mem_append_right _ (List.mem_append_right _ (List.mem_append_right _ (List.mem_append_right _ (List.mem_append_left _ (List.mem_of_getElem? (l := B5) (i := 16) rfl)))))))
theorem k117 : Cond.fieldLink "ImageGcdsModel" 56 "ImageGcdsModel" "planeA" "[I" ∈ W0 := (List.mem_append_right _ (List.mem_append_right _ (List.mem_append_right _ (List.mem_append_right _ (List.mem_append_right _ (List.mem_append_left _ (List.mem_of_getElem? (l := B5) (i := 17) rfl)))))))
theorem k118 : Cond.fieldLink "ImageGcdsModel" 59 "ImageGcdsModel" "planeB" "[I" ∈ W0 := (List.mem_append_right _ (List.mem_append_right _ (List.mem_append_right _ (List.mem_append_right _ (List.mem_append_right _ (List.mem_append_left _ (List.mem_of_getElem? (l := B5) (i := 18) rfl)))))))
theorem k119 : Cond.fieldLink "ImageGcdsModel" 62 "ImageGcdsModel" "matrix" "[I" ∈ W0 := (List.mem_append_right _ (List.mem_append_right _ (List.mem_append_right _ (List.mem_append_right _ (List.mem_append_right _ (List.mem_append_left _ (List.mem_of_getElem? (l := B5) (i := 19) rfl)))))))
theorem k120 : Cond.methodLink "ImageGcds$Poly" 3 Lib.objectInit ∈ W0 := (List.mem_append_right _ (List.mem_append_right _ (List.mem_append_right _ (List.mem_append_right _ (List.mem_append_right _ (List.mem_append_right _ (List.mem_append_left _ (List.mem_of_getElem? (l := B6) (i := 0) rfl))))))))
theorem k121 : Cond.fieldLink "ImageGcds$Poly" 9 "ImageGcds$Poly" "size" "I" ∈ W0 := (List.mem_append_right _ (List.mem_append_right _ (List.mem_append_right _ (List.mem_append_right _ (List.mem_append_right _ (List.mem_append_right _ (List.mem_append_left _ (List.mem_of_getElem? (l := B6) (i := 1) rfl))))))))
theorem k122 : Cond.fieldLink "ImageGcds$Poly" 15 "ImageGcds$Poly" "keys" "[I" ∈ W0 := (List.mem_append_right _ (List.mem_append_right _ (List.mem_append_right _ (List.mem_append_right _ (List.mem_append_right _ (List.mem_append_right _ (List.mem_append_left _ (List.mem_of_getElem? (l := B6) (i := 2) rfl))))))))
theorem k123 : Cond.fieldLink "ImageGcds$Poly" 19 "ImageGcds$Poly" "numbers" "[I" ∈ W0 := (List.mem_append_right _ (List.mem_append_right _ (List.mem_append_right _ (List.mem_append_right _ (List.mem_append_right _ (List.mem_append_right _ (List.mem_append_left _ (List.mem_of_getElem? (l := B6) (i := 3) rfl))))))))
theorem k124 : Cond.methodLink "ImageGcdsModel" 99 yM_copy ∈ W0 := (List.mem_append_right _ (List.mem_append_right _ (List.mem_append_right _ (List.mem_append_right _ (List.mem_append_right _ (List.mem_append_right _ (List.mem_append_left _ (List.mem_of_getElem? (l := B6) (i := 4) rfl))))))))
theorem k125 : Cond.instanceMethod yM_copy ∈ W0 := (List.mem_append_right _ (List.mem_append_right _ (List.mem_append_right _ (List.mem_append_right _ (List.mem_append_right _ (List.mem_append_right _ (List.mem_append_left _ (List.mem_of_getElem? (l := B6) (i := 5) rfl))))))))
theorem k126 : Cond.selects "ImageGcdsModel" yM_copy yM_copy ∈ W0 := (List.mem_append_right _ (List.mem_append_right _ (List.mem_append_right _ (List.mem_append_right _ (List.mem_append_right _ (List.mem_append_right _ (List.mem_append_left _ (List.mem_of_getElem? (l := B6) (i := 6) rfl))))))))
theorem k127 : Cond.code yM_copy bM_copy 4 none ∈ W0 := (List.mem_append_right _ (List.mem_append_right _ (List.mem_append_right _ (List.mem_append_right _ (List.mem_append_right _ (List.mem_append_right _ (List.mem_append_left _ (List.mem_of_getElem? (l := B6) (i := 7) rfl))))))))
theorem k128 : Cond.methodLink "ImageGcdsModel" 95 yM_clear ∈ W0 := (List.mem_append_right _ (List.mem_append_right _ (List.mem_append_right _ (List.mem_append_right _ (List.mem_append_right _ (List.mem_append_right _ (List.mem_append_left _ (List.mem_of_getElem? (l := B6) (i := 8) rfl))))))))
theorem k129 : Cond.instanceMethod yM_clear ∈ W0 := (List.mem_append_right _ (List.mem_append_right _ (List.mem_append_right _ (List.mem_append_right _ (List.mem_append_right _ (List.mem_append_right _ (List.mem_append_left _ (List.mem_of_getElem? (l := B6) (i := 9) rfl))))))))
theorem k130 : Cond.selects "ImageGcdsModel" yM_clear yM_clear ∈ W0 := (List.mem_append_right _ (List.mem_append_right _ (List.mem_append_right _ (List.mem_append_right _ (List.mem_append_right _ (List.mem_append_right _ (List.mem_append_left _ (List.mem_of_getElem? (l := B6) (i := 10) rfl))))))))
theorem k131 : Cond.code yM_clear bM_clear 3 none ∈ W0 := (List.mem_append_right _ (List.mem_append_right _ (List.mem_append_right _ (List.mem_append_right _ (List.mem_append_right _ (List.mem_append_right _ (List.mem_append_left _ (List.mem_of_getElem? (l := B6) (i := 11) rfl))))))))
theorem k132 : Cond.methodLink "ImageGcdsModel" 237 yM_made ∈ W0 := (List.mem_append_right _ (List.mem_append_right _ (List.mem_append_right _ (List.mem_append_right _ (List.mem_append_right _ (List.mem_append_right _ (List.mem_append_left _ (List.mem_of_getElem? (l := B6) (i := 12) rfl))))))))
theorem k133 : Cond.instanceMethod yM_made ∈ W0 := (List.mem_append_right _ (List.mem_append_right _ (List.mem_append_right _ (List.mem_append_right _ (List.mem_append_right _ (List.mem_append_right _ (List.mem_append_left _ (List.mem_of_getElem? (l := B6) (i := 13) rfl))))))))
theorem k134 : Cond.selects "ImageGcdsModel" yM_made yM_made ∈ W0 := (List.mem_append_right _ (List.mem_append_right _ (List.mem_append_right _ (List.mem_append_right _ (List.mem_append_right _ (List.mem_append_right _ (List.mem_append_left _ (List.mem_of_getElem? (l := B6) (i := 14) rfl))))))))
theorem k135 : Cond.code yM_made bM_made 2 (some .int) ∈ W0 := (List.mem_append_right _ (List.mem_append_right _ (List.mem_append_right _ (List.mem_append_right _ (List.mem_append_right _ (List.mem_append_right _ (List.mem_append_left _ (List.mem_of_getElem? (l := B6) (i := 15) rfl))))))))
theorem k136 : Cond.methodLink "ImageGcds" 22 yG_requireRoom ∈ W0 := (List.mem_append_right _ (List.mem_append_right _ (List.mem_append_right _ (List.mem_append_right _ (List.mem_append_right _ (List.mem_append_right _ (List.mem_append_left _ (List.mem_of_getElem? (l := B6) (i := 16) rfl))))))))
theorem k137 : Cond.instanceMethod yG_requireRoom ∈ W0 := (List.mem_append_right _ (List.mem_append_right _ (List.mem_append_right _ (List.mem_append_right _ (List.mem_append_right _ (List.mem_append_right _ (List.mem_append_left _ (List.mem_of_getElem? (l := B6) (i := 17) rfl))))))))
theorem k138 : Cond.selects "ImageGcds" yG_requireRoom yG_requireRoom ∈ W0 := (List.mem_append_right _ (List.mem_append_right _ (List.mem_append_right _ (List.mem_append_right _ (List.mem_append_right _ (List.mem_append_right _ (List.mem_append_left _ (List.mem_of_getElem? (l := B6) (i := 18) rfl))))))))
theorem k139 : Cond.code yG_requireRoom bG_requireRoom 1 none ∈ W0 := (List.mem_append_right _ (List.mem_append_right _ (List.mem_append_right _ (List.mem_append_right _ (List.mem_append_right _ (List.mem_append_right _ (List.mem_append_left _ (List.mem_of_getElem? (l := B6) (i := 19) rfl))))))))
theorem k140 : Cond.instantiable "ImageGcds$Poly" 3 ∈ W0 := (List.mem_append_right _ (List.mem_append_right _ (List.mem_append_right _ (List.mem_append_right _ (List.mem_append_right _ (List.mem_append_right _ (List.mem_append_right _ (List.mem_append_left _ (List.mem_of_getElem? (l := B7) (i := 0) rfl)))))))))
theorem k141 : Cond.initialized "ImageGcds$Poly" ∈ W0 := (List.mem_append_right _ (List.mem_append_right _ (List.mem_append_right _ (List.mem_append_right _ (List.mem_append_right _ (List.mem_append_right _ (List.mem_append_right _ (List.mem_append_left _ (List.mem_of_getElem? (l := B7) (i := 1) rfl)))))))))
theorem k142 : Cond.code yP_init bP_init 3 none ∈ W0 := (List.mem_append_right _ (List.mem_append_right _ (List.mem_append_right _ (List.mem_append_right _ (List.mem_append_right _ (List.mem_append_right _ (List.mem_append_right _ (List.mem_append_left _ (List.mem_of_getElem? (l := B7) (i := 2) rfl)))))))))
theorem k143 : Cond.methodLink "ImageGcds" 25 yP_init ∈ W0 := (List.mem_append_right _ (List.mem_append_right _ (List.mem_append_right _ (List.mem_append_right _ (List.mem_append_right _ (List.mem_append_right _ (List.mem_append_right _ (List.mem_append_left _ (List.mem_of_getElem? (l := B7) (i := 3) rfl)))))))))
theorem k144 : Cond.instanceMethod yP_init ∈ W0 := (List.mem_append_right _ (List.mem_append_right _ (List.mem_append_right _ (List.mem_append_right _ (List.mem_append_right _ (List.mem_append_right _ (List.mem_append_right _ (List.mem_append_left _ (List.mem_of_getElem? (l := B7) (i := 4) rfl)))))))))
theorem k145 : Cond.methodLink "ImageGcds" 28 yG_keep ∈ W0 := (List.mem_append_right _ (List.mem_append_right _ (List.mem_append_right _ (List.mem_append_right _ (List.mem_append_right _ (List.mem_append_right _ (List.mem_append_right _ (List.mem_append_left _ (List.mem_of_getElem? (l := B7) (i := 5) rfl)))))))))
theorem k146 : Cond.instanceMethod yG_keep ∈ W0 := (List.mem_append_right _ (List.mem_append_right _ (List.mem_append_right _ (List.mem_append_right _ (List.mem_append_right _ (List.mem_append_right _ (List.mem_append_right _ (List.mem_append_left _ (List.mem_of_getElem? (l := B7) (i := 6) rfl)))))))))
theorem k147 : Cond.selects "ImageGcds" yG_keep yG_keep ∈ W0 := (List.mem_append_right _ (List.mem_append_right _ (List.mem_append_right _ (List.mem_append_right _ (List.mem_append_right _ (List.mem_append_right _ (List.mem_append_right _ (List.mem_append_left _ (List.mem_of_getElem? (l := B7) (i := 7) rfl)))))))))
theorem k148 : Cond.code yG_keep bG_keep 2 (some .int) ∈ W0 := (List.mem_append_right _ (List.mem_append_right _ (List.mem_append_right _ (List.mem_append_right _ (List.mem_append_right _ (List.mem_append_right _ (List.mem_append_right _ (List.mem_append_left _ (List.mem_of_getElem? (l := B7) (i := 8) rfl)))))))))
theorem k149 : Cond.methodLink "ImageGcdsLaw" 7 yG_poly ∈ W0 := (List.mem_append_right _ (List.mem_append_right _ (List.mem_append_right _ (List.mem_append_right _ (List.mem_append_right _ (List.mem_append_right _ (List.mem_append_right _ (List.mem_append_left _ (List.mem_of_getElem? (l := B7) (i := 9) rfl)))))))))
theorem k150 : Cond.instanceMethod yG_poly ∈ W0 := (List.mem_append_right _ (List.mem_append_right _ (List.mem_append_right _ (List.mem_append_right _ (List.mem_append_right _ (List.mem_append_right _ (List.mem_append_right _ (List.mem_append_left _ (List.mem_of_getElem? (l := B7) (i := 10) rfl)))))))))
theorem k151 : Cond.selects "ImageGcds" yG_poly yG_poly ∈ W0 := (List.mem_append_right _ (List.mem_append_right _ (List.mem_append_right _ (List.mem_append_right _ (List.mem_append_right _ (List.mem_append_right _ (List.mem_append_right _ (List.mem_append_left _ (List.mem_of_getElem? (l := B7) (i := 11) rfl)))))))))
theorem k152 : Cond.code yG_poly bG_poly 1 (some .int) ∈ W0 := (List.mem_append_right _ (List.mem_append_right _ (List.mem_append_right _ (List.mem_append_right _ (List.mem_append_right _ (List.mem_append_right _ (List.mem_append_right _ (List.mem_append_left _ (List.mem_of_getElem? (l := B7) (i := 12) rfl)))))))))
theorem uG : ∀ w ∈ wUG, w ∈ W0 := fun w h => (List.mem_append_right _ (List.mem_append_right _ (List.mem_append_right _ (List.mem_append_right _ (List.mem_append_right _ (List.mem_append_right _ (List.mem_append_right _ (List.mem_append_right _ (List.mem_append_left _ h)))))))))
theorem uP : ∀ w ∈ wUP, w ∈ W0 := fun w h => (List.mem_append_right _ (List.mem_append_right _ (List.mem_append_right _ (List.mem_append_right _ (List.mem_append_right _ (List.mem_append_right _ (List.mem_append_right _ (List.mem_append_right _ (List.mem_append_right _ (List.mem_append_left _ h))))))))))
theorem uM : ∀ w ∈ wUM, w ∈ W0 := fun w h => (List.mem_append_right _ (List.mem_append_right _ (List.mem_append_right _ (List.mem_append_right _ (List.mem_append_right _ (List.mem_append_right _ (List.mem_append_right _ (List.mem_append_right _ (List.mem_append_right _ (List.mem_append_right _ (List.mem_append_left _ h)))))))))))
theorem thI : ∀ w ∈ thW, w ∈ W0 := fun w h => (List.mem_append_right _ (List.mem_append_right _ (List.mem_append_right _ (List.mem_append_right _ (List.mem_append_right _ (List.mem_append_right _ (List.mem_append_right _ (List.mem_append_right _ (List.mem_append_right _ (List.mem_append_right _ (List.mem_append_right _ h)))))))))))
theorem good_B0 : B0.all goodWord = true := by decide +kernel
theorem good_B1 : B1.all goodWord = true := by decide +kernel
theorem good_B2 : B2.all goodWord = true := by decide +kernel
theorem good_B3 : B3.all goodWord = true := by decide +kernel
theorem good_B4 : B4.all goodWord = true := by decide +kernel
theorem good_B5 : B5.all goodWord = true := by decide +kernel
theorem good_B6 : B6.all goodWord = true := by decide +kernel
theorem good_B7 : B7.all goodWord = true := by decide +kernel
theorem good_wUG : wUG.all goodWord = true := by decide +kernel
theorem good_wUP : wUP.all goodWord = true := by decide +kernel
theorem good_wUM : wUM.all goodWord = true := by decide +kernel
theorem good_thW : thW.all goodWord = true := by decide +kernel
theorem W0a : ∀ w ∈ W0, goodWord w = true := by
  intro w h
  unfold W0 at h
  simp only [List.mem_append] at h
  rcases h with h | h | h | h | h | h | h | h | h | h | h | h
  · exact List.all_eq_true.mp good_B0 w h
  · exact List.all_eq_true.mp good_B1 w h
  · exact List.all_eq_true.mp good_B2 w h
  · exact List.all_eq_true.mp good_B3 w h
  · exact List.all_eq_true.mp good_B4 w h
  · exact List.all_eq_true.mp good_B5 w h
  · exact List.all_eq_true.mp good_B6 w h
  · exact List.all_eq_true.mp good_B7 w h
  · exact List.all_eq_true.mp good_wUG w h
  · exact List.all_eq_true.mp good_wUP w h
  · exact List.all_eq_true.mp good_wUM w h
  · exact List.all_eq_true.mp good_thW w h
theorem W0g : ∀ w ∈ W0, (w.onTables && w.keeps) = true ∨ ∃ ty, w = .arrayClass ty := fun w h => good_of_word (W0a w h)
theorem gW {ws : List Cond} (h : ∀ w ∈ ws, w ∈ W0) : GoodIn W0 ws := fun w hw => ⟨h w hw, W0g w (h w hw)⟩
theorem gC {x : Cond} (h5 : x ∈ W0) : ∀ w ∈ x :: W0, w ∈ W0 := fun w h => (List.mem_cons.mp h).elim (fun e => by rw [e]; exact h5) id
theorem gV {own : String} {idx : Nat} {C : String} {y : MethodName} {x : Cond} (h1 : Cond.methodLink own idx y ∈ W0) (h2 : Cond.instanceMethod y ∈ W0) (h3 : Cond.selects C y y ∈ W0) (h4 : Cond.initialized C ∈ W0) (h5 : x ∈ W0) : GoodIn W0 (wsV own idx C y (x :: W0)) := gW fun w h => by
  unfold wsV at h
  rcases List.mem_append.mp h with h | h
  · simp only [List.mem_cons, List.not_mem_nil, or_false] at h
    rcases h with rfl | rfl | rfl | rfl
    · exact h1
    · exact h2
    · exact h3
    · exact h4
  · exact gC h5 w h
theorem gS {own : String} {idx : Nat} {y : MethodName} {x : Cond} (h1 : Cond.methodLink own idx y ∈ W0) (h2 : Cond.static y ∈ W0) (h4 : Cond.initialized y.cls ∈ W0) (h5 : x ∈ W0) : GoodIn W0 (va_wsS own idx y (x :: W0)) := gW fun w h => by
  unfold va_wsS at h
  rcases List.mem_append.mp h with h | h
  · simp only [List.mem_cons, List.not_mem_nil, or_false] at h
    rcases h with rfl | rfl | rfl
    · exact h1
    · exact h2
    · exact h4
  · exact gC h5 w h
theorem gI {x : Cond} (h5 : x ∈ W0) : GoodIn W0 (x :: W0) := gW (gC h5)
def wG_held : List Cond := .code yG_held bG_held 2 (some (.object "ImageGcds$Poly")) :: W0
def wG_term : List Cond := .code yG_term bG_term 10 (some .boolean) :: W0
def wG_add : List Cond := .code yG_add bG_add 5 (some .int) :: W0
def wG_times : List Cond := .code yG_times bG_times 5 (some .int) :: W0
def wG_over : List Cond := .code yG_over bG_over 6 (some .int) :: W0
def wG_gcd : List Cond := .code yG_gcd bG_gcd 5 (some .int) :: W0
def wG_resultant : List Cond := .code yG_resultant bG_resultant 6 (some .int) :: W0
def wG_slope : List Cond := .code yG_slope bG_slope 4 (some .int) :: W0
def wG_content : List Cond := .code yG_content bG_content 4 (some .int) :: W0
def wG_part : List Cond := .code yG_part bG_part 4 (some .int) :: W0
def wG_image : List Cond := .code yG_image bG_image 5 (some .int) :: W0
def wG_equal : List Cond := .code yG_equal bG_equal 5 (some .boolean) :: W0
def wG_terms : List Cond := .code yG_terms bG_terms 2 (some .int) :: W0
def wG_at : List Cond := .code yG_at bG_at 5 (some .int) :: W0
def wG_degree : List Cond := .code yG_degree bG_degree 4 (some .int) :: W0
def wL_term : List Cond := .codeWith yL_term bL_term 9 (some .int) [(0, 22, 25, 19), (0, 22, 29, 21), (0, 22, 33, 23)] :: W0
def wL_add : List Cond := .codeWith yL_add bL_add 5 (some .int) [(0, 10, 13, 19), (0, 10, 17, 13)] :: W0
def wL_times : List Cond := .codeWith yL_times bL_times 5 (some .int) [(0, 10, 13, 19), (0, 10, 17, 13), (0, 10, 21, 21)] :: W0
def wL_over : List Cond := .codeWith yL_over bL_over 5 (some .int) [(0, 10, 13, 19), (0, 10, 17, 13)] :: W0
def wL_gcd : List Cond := .codeWith yL_gcd bL_gcd 5 (some .int) [(0, 10, 13, 19), (0, 10, 17, 13)] :: W0
def wL_resultant : List Cond := .codeWith yL_resultant bL_resultant 6 (some .int) [(0, 12, 15, 19), (0, 12, 19, 13), (0, 12, 23, 21)] :: W0
def wL_slope : List Cond := .codeWith yL_slope bL_slope 5 (some .int) [(0, 10, 13, 19), (0, 10, 17, 13), (0, 10, 21, 21)] :: W0
def wL_content : List Cond := .codeWith yL_content bL_content 5 (some .int) [(0, 10, 13, 19), (0, 10, 17, 13), (0, 10, 21, 21)] :: W0
def wL_part : List Cond := .codeWith yL_part bL_part 5 (some .int) [(0, 10, 13, 19), (0, 10, 17, 13), (0, 10, 21, 21)] :: W0
def wL_image : List Cond := .codeWith yL_image bL_image 6 (some .int) [(0, 12, 15, 19), (0, 12, 19, 13), (0, 12, 23, 21)] :: W0
def wL_equal : List Cond := .codeWith yL_equal bL_equal 5 (some .int) [(0, 17, 20, 19)] :: W0
def wL_terms : List Cond := .codeWith yL_terms bL_terms 4 (some .int) [(0, 9, 12, 19)] :: W0
def wL_at : List Cond := .codeWith yL_at bL_at 6 (some .int) [(0, 12, 15, 19), (0, 12, 19, 21)] :: W0
def wL_degree : List Cond := .codeWith yL_degree bL_degree 5 (some .int) [(0, 10, 13, 19), (0, 10, 17, 21)] :: W0
def wM_number : List Cond := .code yM_number bM_number 3 (some .int) :: W0
def wM_isPoly : List Cond := .code yM_isPoly bM_isPoly 2 (some .boolean) :: W0
def wM_isFull : List Cond := .code yM_isFull bM_isFull 1 (some .boolean) :: W0
def wM_isLetter : List Cond := .code yM_isLetter bM_isLetter 2 (some .boolean) :: W0
def wM_areNot : List Cond := .code yM_areNot bM_areNot 3 (some .boolean) :: W0
def wM_thrown : List Cond := .code yM_thrown bM_thrown 1 (some .int) :: W0
def wM_fails : List Cond := .code yM_fails bM_fails 4 (some .boolean) :: W0
def wM_count : List Cond := .code yM_count bM_count 1 (some .int) :: W0
def wM_term : List Cond := .code yM_term bM_term 9 (some .boolean) :: W0
def wM_add : List Cond := .code yM_add bM_add 4 (some .int) :: W0
def wM_times : List Cond := .code yM_times bM_times 3 (some .int) :: W0
def wM_over : List Cond := .code yM_over bM_over 3 (some .int) :: W0
def wM_gcd : List Cond := .code yM_gcd bM_gcd 3 (some .int) :: W0
def wM_resultant : List Cond := .code yM_resultant bM_resultant 12 (some .int) :: W0
def wM_slope : List Cond := .code yM_slope bM_slope 3 (some .int) :: W0
def wM_content : List Cond := .code yM_content bM_content 5 (some .int) :: W0
def wM_part : List Cond := .code yM_part bM_part 7 (some .int) :: W0
def wM_image : List Cond := .code yM_image bM_image 10 (some .int) :: W0
def wM_equal : List Cond := .code yM_equal bM_equal 5 (some .boolean) :: W0
def wM_terms : List Cond := .code yM_terms bM_terms 2 (some .int) :: W0
def wM_at : List Cond := .code yM_at bM_at 9 (some .int) :: W0
def wM_degree : List Cond := .code yM_degree bM_degree 4 (some .int) :: W0
def wG_init : List Cond := .code yG_init bG_init 2 none :: W0
def wM_init : List Cond := .code yM_init bM_init 2 none :: W0
def wP_init : List Cond := .code yP_init bP_init 3 none :: W0
def wG_count : List Cond := .code yG_count bG_count 1 (some .int) :: W0
def wL_cell : List Cond := .code yL_cell bL_cell 2 (some .int) :: W0
def wM_clear : List Cond := .code yM_clear bM_clear 3 none :: W0
def wM_copy : List Cond := .code yM_copy bM_copy 4 none :: W0
def wM_made : List Cond := .code yM_made bM_made 2 (some .int) :: W0
def wM_poly : List Cond := .code yM_poly bM_poly 1 (some .int) :: W0
def wG_requireRoom : List Cond := .code yG_requireRoom bG_requireRoom 1 none :: W0
def wG_keep : List Cond := .code yG_keep bG_keep 2 (some .int) :: W0
def wG_poly : List Cond := .code yG_poly bG_poly 1 (some .int) :: W0
def wL_poly : List Cond := .codeWith yL_poly bL_poly 3 (some .int) [(0, 8, 11, 13)] :: W0
def gU (dC : Nat → ClassId) (dI : Nat → Nat → Nat) (h0 : Nat) (le : Int32) (qp sa : Nat) (U : State) : Prop := va_P (dC, dI) cls9 [(h0, .inr (0, [.int le, .ref qp, .int 0, .null]))] U.heap ∧ va_K (dC, dI) cls9 [] U ∧ th_S U ∧ vk_R "ImageGcds" 139 "no such polynomial" sa U
theorem gU.go {dC : Nat → ClassId} {dI : Nat → Nat → Nat} {h0 : Nat} {le : Int32} {qp sa : Nat} {s U : State} (hW : s.WarmedH U.vm) (hH : ∀ q : Nat, q < s.heap.size → U.heap[q]? = s.heap[q]?) (h : gU dC dI h0 le qp sa s) : gU dC dI h0 le qp sa U :=
  ⟨h.1.kept (fun k x hx => hH x.1 ((h.1 k x hx).lt)), va_K.moved hW.alike h.2.1, h.2.2.1.go hW.alike hH, vk_R.warm hW h.2.2.2⟩
theorem gU.bl {dC : Nat → ClassId} {dI : Nat → Nat → Nat} {h0 : Nat} {le : Int32} {qp sa : Nat} {av : List Value} : FrameBlind (va_Pc av (gU dC dI h0 le qp sa)) := fun a U g mk q => ⟨q.1, gU.go (s := U) (U := U.calling g mk a) (State.WarmedH.refl U) (fun _ _ => rfl) q.2⟩
end
section
abbrev mW (h0 : Nat) (th le co : Int32) (fs : List Value) : va_W := [(h0, .inr (2, .int th :: .int le :: .int co :: fs))]
def mU (dC : Nat → ClassId) (dI : Nat → Nat → Nat) (h0 : Nat) (th le : Int32) (fs : List Value) (U : State) : Prop := va_P (dC, dI) cls9 (mW h0 th le 0 fs) U.heap ∧ va_K (dC, dI) cls9 [] U
theorem mB {dC : Nat → ClassId} {dI : Nat → Nat → Nat} {h0 : Nat} {th le : Int32} {fs av : List Value} : FrameBlind (va_Pc av (mU dC dI h0 th le fs)) := fun a U g mk q => ⟨q.1, q.2.1, va_K.moved (u := U) (U := U.calling g mk a) (Vm.Alike.refl U.vm) q.2.2⟩
theorem mP {dC : Nat → ClassId} {dI : Nat → Nat → Nat} {h0 : Nat} {th le : Int32} {fs av : List Value} {s : State} {H : Heap} (hP : va_P (dC, dI) cls9 (mW h0 th le 0 fs) H) (hK : va_K (dC, dI) cls9 [] s) : ∀ U : State, U.heap = H → s.WarmedH U.vm → va_Pc av (mU dC dI h0 th le fs) av.toArray U := fun U hU hW => ⟨rfl, by rw [hU]; exact hP, va_K.moved hW.alike hK⟩
theorem mD {h0 : Nat} {x : va_E} : va_D (fun q : Nat => q = h0) [(h0, x)] := ⟨fun i j p q hi hj _ => by
    have h1 : i < 1 := (List.getElem?_eq_some_iff.mp hi).1
    have h2 : j < 1 := (List.getElem?_eq_some_iff.mp hj).1
    omega, fun k q hk => by
    have h1 : k < 1 := (List.getElem?_eq_some_iff.mp hk).1
    have h2 : k = 0 := by omega
    subst h2
    cases hk
    rfl⟩
set_option maxHeartbeats 4000000 in
set_option maxRecDepth 100000 in
theorem cM_number (l : Launch) (p0 : Int64) : Met l yM_number wM_number ({ frames := 0, cells := 0, slots := 0, locals := 0 }) (fun v _ => v = ([.long p0] : List Value).toArray) (vp_Si (fun r => True)) 0 0 (fun _ => False) := by
  refine Met.ofW (cc := bM_number) (maxL := 3) (ret := (some .int)) (by decide) rfl ?_
  intro p e s m args below meth c s₁ B hml hv
  obtain rfl := hv
  have hx := B.exec
  have hb := B.bytes
  have hr := B.returns
  have hts := atoms_spec (ws := wM_number) B.pre
  have hk : ∀ w ∈ W0, w.before _ s = true := fun w h => hts w (List.mem_cons_of_mem _ h)
  have hown : s.vm.findClass "ImageGcdsModel" = some m.cls := findClass_of_methodNamed B.named
  have hlocks := B.notSynchronized
  have hl := lv_entry ([.long p0]) (n := 3) (Nat.le_of_ble_eq_true rfl)
  rw [lg_entry_eq]
  generalize (lg_sl ([.long p0]) ++ List.replicate (3 - (lg_sl ([.long p0])).length) Slot.unset).toArray = ls at hl ⊢
  have hl : lv_has ls 3 [(0, .long p0)] := hl
  refine lv_lload_n hx hb dM_number_0 rfl (lv_at hl 0 rfl) ?_
  refine lv_ldc2 (v := 32003) hx hb hown (hk _ k65) dM_number_1 ?_
  refine lv_lrem hx hb dM_number_4 (by decide) ?_
  refine lv_topl (fun v3 ev3 => ?_)
  refine lv_l2i hx hb dM_number_5 rfl ?_
  refine lv_topi (fun v4 ev4 => ?_)
  refine lv_istore_n (lv' := [(2, .int v4), (0, .long p0)]) hx hb dM_number_6 rfl hl (by decide) rfl (fun ls hl => ?_)
  refine lv_iload_n hx hb dM_number_7 rfl (lv_at hl 0 rfl) ?_
  refine lv_if_ge (tgt := 19) hx hb dM_number_8 (by decide) (fun c5 => ?_) (fun c5 => ?_)
  · skip
    refine lv_iload_n hx hb dM_number_19 rfl (lv_at hl 0 rfl) ?_
    exact W.iret (v := v4) hx hb hr (fun t ht hW => ⟨_, rfl, trivial, ht⟩) (fun q h => nomatch h) dM_number_20
  · skip
    refine lv_iload_n hx hb dM_number_11 rfl (lv_at hl 0 rfl) ?_
    refine lv_sipush (v := 32003) hx hb dM_number_12 (by decide) ?_
    refine lv_iadd hx hb dM_number_15 ?_
    refine lv_topi (fun v6 ev6 => ?_)
    refine lv_goto (tgt := 20) hx hb dM_number_16 (by decide) ?_
    exact W.iret (v := v6) hx hb hr (fun t ht hW => ⟨_, rfl, trivial, ht⟩) (fun q h => nomatch h) dM_number_20
set_option maxHeartbeats 4000000 in
set_option maxRecDepth 100000 in
theorem cM_isPoly (l : Launch) (dC : Nat → ClassId) (dI : Nat → Nat → Nat) (h0 : Nat) (th le : Int32) (fs : List Value) (p0 : Int32) : Met l yM_isPoly wM_isPoly ({ frames := 0, cells := 0, slots := 0, locals := 0 }) (va_Pc [.ref h0, .int p0] (mU dC dI h0 th le fs)) (vp_Si (fun r => r = 0)) 0 0 (fun _ => False) := by
  refine Met.ofW (cc := bM_isPoly) (maxL := 2) (ret := (some .boolean)) (by decide) rfl ?_
  intro p e s m args below meth c s₁ B hml hv
  obtain ⟨rfl, hP, hK⟩ := hv
  have hx := B.exec
  have hb := B.bytes
  have hr := B.returns
  have hts := atoms_spec (ws := wM_isPoly) B.pre
  have hk : ∀ w ∈ W0, w.before _ s = true := fun w h => hts w (List.mem_cons_of_mem _ h)
  have hown : s.vm.findClass "ImageGcdsModel" = some m.cls := findClass_of_methodNamed B.named
  have hlocks := B.notSynchronized
  have hl := lv_entry ([.ref h0, .int p0]) (n := 2) (Nat.le_of_ble_eq_true rfl)
  rw [lg_entry_eq]
  generalize (lg_sl ([.ref h0, .int p0]) ++ List.replicate (2 - (lg_sl ([.ref h0, .int p0])).length) Slot.unset).toArray = ls at hl ⊢
  have hl : lv_has ls 2 [(0, .ref h0), (1, .int p0)] := hl
  refine lv_iload_n hx hb dM_isPoly_0 rfl (lv_at hl 1 rfl) ?_
  refine lv_if_lt (tgt := 16) hx hb dM_isPoly_1 (by decide) (fun c7 => ?_) (fun c7 => ?_)
  · skip
    refine lv_iconst (v := 0) hx hb dM_isPoly_16 (by decide) ?_
    exact W.zret (v := 0) hx hb hr rfl (fun t ht hW => ⟨_, rfl, rfl, ht⟩) (fun q h => nomatch h) dM_isPoly_17
  · skip
    refine lv_iload_n hx hb dM_isPoly_4 rfl (lv_at hl 1 rfl) ?_
    refine lv_aload_n hx hb dM_isPoly_5 rfl (lv_at hl 0 rfl) ?_
    refine va_get (D := (dC, dI)) (ci := 2) (v := .int 0) (C := "ImageGcdsModel") (T := TM) (N := 25) hx hb hk uM hown hK hP 0 rfl rfl 2 (by decide) (hk _ k66) (fun _ h9 => h9) rfl dM_isPoly_6 ?_
    refine lv_icmp_ge (tgt := 16) hx hb dM_isPoly_9 (by decide) (fun c8 => ?_) (fun c8 => ?_)
    · skip
      refine lv_iconst (v := 0) hx hb dM_isPoly_16 (by decide) ?_
      exact W.zret (v := 0) hx hb hr rfl (fun t ht hW => ⟨_, rfl, rfl, ht⟩) (fun q h => nomatch h) dM_isPoly_17
    · skip
      exact absurd (Int32.not_lt.mp c7) c8
set_option maxHeartbeats 4000000 in
set_option maxRecDepth 100000 in
theorem cM_isFull (l : Launch) (dC : Nat → ClassId) (dI : Nat → Nat → Nat) (h0 : Nat) (th le : Int32) (fs : List Value) : Met l yM_isFull wM_isFull ({ frames := 0, cells := 0, slots := 0, locals := 0 }) (va_Pc [.ref h0] (mU dC dI h0 th le fs)) (vp_Si (fun r => r = 0)) 0 0 (fun _ => False) := by
  refine Met.ofW (cc := bM_isFull) (maxL := 1) (ret := (some .boolean)) (by decide) rfl ?_
  intro p e s m args below meth c s₁ B hml hv
  obtain ⟨rfl, hP, hK⟩ := hv
  have hx := B.exec
  have hb := B.bytes
  have hr := B.returns
  have hts := atoms_spec (ws := wM_isFull) B.pre
  have hk : ∀ w ∈ W0, w.before _ s = true := fun w h => hts w (List.mem_cons_of_mem _ h)
  have hown : s.vm.findClass "ImageGcdsModel" = some m.cls := findClass_of_methodNamed B.named
  have hlocks := B.notSynchronized
  have hl := lv_entry ([.ref h0]) (n := 1) (Nat.le_of_ble_eq_true rfl)
  rw [lg_entry_eq]
  generalize (lg_sl ([.ref h0]) ++ List.replicate (1 - (lg_sl ([.ref h0])).length) Slot.unset).toArray = ls at hl ⊢
  have hl : lv_has ls 1 [(0, .ref h0)] := hl
  refine lv_aload_n hx hb dM_isFull_0 rfl (lv_at hl 0 rfl) ?_
  refine va_get (D := (dC, dI)) (ci := 2) (v := .int 0) (C := "ImageGcdsModel") (T := TM) (N := 25) hx hb hk uM hown hK hP 0 rfl rfl 2 (by decide) (hk _ k66) (fun _ h9 => h9) rfl dM_isFull_1 ?_
  refine lv_bipush (v := 60) hx hb dM_isFull_4 (by decide) ?_
  refine lv_icmp_ne (tgt := 13) hx hb dM_isFull_6 (by decide) (fun c9 => ?_) (fun c9 => ?_)
  · skip
    refine lv_iconst (v := 0) hx hb dM_isFull_13 (by decide) ?_
    exact W.zret (v := 0) hx hb hr rfl (fun t ht hW => ⟨_, rfl, rfl, ht⟩) (fun q h => nomatch h) dM_isFull_14
  · skip
    exact absurd c9 (by decide)
set_option maxHeartbeats 4000000 in
set_option maxRecDepth 100000 in
theorem cM_isLetter (l : Launch) (dC : Nat → ClassId) (dI : Nat → Nat → Nat) (h0 : Nat) (th le : Int32) (fs : List Value) (p0 : Int32) : Met l yM_isLetter wM_isLetter ({ frames := 0, cells := 0, slots := 0, locals := 0 }) (va_Pc [.ref h0, .int p0] (mU dC dI h0 th le fs)) (vp_Si (fun r => True)) 0 0 (fun _ => False) := by
  refine Met.ofW (cc := bM_isLetter) (maxL := 2) (ret := (some .boolean)) (by decide) rfl ?_
  intro p e s m args below meth c s₁ B hml hv
  obtain ⟨rfl, hP, hK⟩ := hv
  have hx := B.exec
  have hb := B.bytes
  have hr := B.returns
  have hts := atoms_spec (ws := wM_isLetter) B.pre
  have hk : ∀ w ∈ W0, w.before _ s = true := fun w h => hts w (List.mem_cons_of_mem _ h)
  have hown : s.vm.findClass "ImageGcdsModel" = some m.cls := findClass_of_methodNamed B.named
  have hlocks := B.notSynchronized
  have hl := lv_entry ([.ref h0, .int p0]) (n := 2) (Nat.le_of_ble_eq_true rfl)
  rw [lg_entry_eq]
  generalize (lg_sl ([.ref h0, .int p0]) ++ List.replicate (2 - (lg_sl ([.ref h0, .int p0])).length) Slot.unset).toArray = ls at hl ⊢
  have hl : lv_has ls 2 [(0, .ref h0), (1, .int p0)] := hl
  refine lv_iload_n hx hb dM_isLetter_0 rfl (lv_at hl 1 rfl) ?_
  refine lv_if_lt (tgt := 16) hx hb dM_isLetter_1 (by decide) (fun c10 => ?_) (fun c10 => ?_)
  · skip
    refine lv_iconst (v := 0) hx hb dM_isLetter_16 (by decide) ?_
    exact W.zret (v := 0) hx hb hr rfl (fun t ht hW => ⟨_, rfl, trivial, ht⟩) (fun q h => nomatch h) dM_isLetter_17
  · skip
    refine lv_iload_n hx hb dM_isLetter_4 rfl (lv_at hl 1 rfl) ?_
    refine lv_aload_n hx hb dM_isLetter_5 rfl (lv_at hl 0 rfl) ?_
    refine va_get (D := (dC, dI)) (ci := 2) (v := .int le) (C := "ImageGcdsModel") (T := TM) (N := 25) hx hb hk uM hown hK hP 0 rfl rfl 1 (by decide) (hk _ k67) (fun _ h9 => h9) rfl dM_isLetter_6 ?_
    refine lv_icmp_ge (tgt := 16) hx hb dM_isLetter_9 (by decide) (fun c11 => ?_) (fun c11 => ?_)
    · skip
      refine lv_iconst (v := 0) hx hb dM_isLetter_16 (by decide) ?_
      exact W.zret (v := 0) hx hb hr rfl (fun t ht hW => ⟨_, rfl, trivial, ht⟩) (fun q h => nomatch h) dM_isLetter_17
    · skip
      refine lv_iconst (v := 1) hx hb dM_isLetter_12 (by decide) ?_
      refine lv_goto (tgt := 17) hx hb dM_isLetter_13 (by decide) ?_
      exact W.zret (v := 1) hx hb hr rfl (fun t ht hW => ⟨_, rfl, trivial, ht⟩) (fun q h => nomatch h) dM_isLetter_17
set_option maxHeartbeats 4000000 in
set_option maxRecDepth 100000 in
theorem cM_areNot (l : Launch) (dC : Nat → ClassId) (dI : Nat → Nat → Nat) (h0 : Nat) (th le : Int32) (fs : List Value) (p0 : Int32) (p1 : Int32) : Met l yM_areNot wM_areNot ({ frames := 1, cells := 0, slots := 0, locals := 30 }) (va_Pc [.ref h0, .int p0, .int p1] (mU dC dI h0 th le fs)) (vp_Si (fun r => r = 1)) 0 0 (fun _ => False) := by
  refine Met.ofW (cc := bM_areNot) (maxL := 3) (ret := (some .boolean)) (by decide) rfl ?_
  intro p e s m args below meth c s₁ B hml hv
  obtain ⟨rfl, hP, hK⟩ := hv
  have hx := B.exec
  have hb := B.bytes
  have hr := B.returns
  have hts := atoms_spec (ws := wM_areNot) B.pre
  have hk : ∀ w ∈ W0, w.before _ s = true := fun w h => hts w (List.mem_cons_of_mem _ h)
  have hown : s.vm.findClass "ImageGcdsModel" = some m.cls := findClass_of_methodNamed B.named
  have hlocks := B.notSynchronized
  have hl := lv_entry ([.ref h0, .int p0, .int p1]) (n := 3) (Nat.le_of_ble_eq_true rfl)
  rw [lg_entry_eq]
  generalize (lg_sl ([.ref h0, .int p0, .int p1]) ++ List.replicate (3 - (lg_sl ([.ref h0, .int p0, .int p1])).length) Slot.unset).toArray = ls at hl ⊢
  have hl : lv_has ls 3 [(0, .ref h0), (1, .int p0), (2, .int p1)] := hl
  refine lv_aload_n hx hb dM_areNot_0 rfl (lv_at hl 0 rfl) ?_
  refine lv_iload_n hx hb dM_areNot_1 rfl (lv_at hl 1 rfl) ?_
  refine vp_callSi (W.runV (As := [.int p0]) (rest := []) ⟨hx, hb, hml, hown, hk⟩ (cM_isPoly l dC dI h0 th le fs p0) (cwV 1 hk (gV k68 k69 k70 k71 k72) rfl rfl rfl (by decide +kernel) ⟨Nat.le_of_ble_eq_true rfl, Nat.le_of_ble_eq_true rfl⟩) ⟨mB, va_recv hK hP (ci := 2) (q0 := 0) rfl rfl, mP hP hK⟩ rfl rfl hl.1 rfl (lv_room (Nat.le_of_ble_eq_true rfl)) dM_areNot_2 ⟨Nat.le_of_ble_eq_true rfl, Nat.le_of_ble_eq_true rfl⟩) (fun r12 hw => ?_)
  subst hw
  refine lv_if_eq (tgt := 16) hx hb dM_areNot_5 (by decide) (fun c13 => ?_) (fun c13 => ?_)
  · skip
    refine lv_iconst (v := 1) hx hb dM_areNot_16 (by decide) ?_
    refine lv_goto (tgt := 21) hx hb dM_areNot_17 (by decide) ?_
    exact W.zret (v := 1) hx hb hr rfl (fun t ht hW => ⟨_, rfl, rfl, ht⟩) (fun q h => nomatch h) dM_areNot_21
  · skip
    exact absurd c13 (by decide)
set_option maxHeartbeats 4000000 in
set_option maxRecDepth 100000 in
theorem cM_thrown (l : Launch) (dC : Nat → ClassId) (dI : Nat → Nat → Nat) (h0 : Nat) (th le : Int32) (fs : List Value) : Met l yM_thrown wM_thrown ({ frames := 0, cells := 0, slots := 0, locals := 0 }) (va_Pc [.ref h0] (mU dC dI h0 th le fs)) (vp_Si (fun r => r = th)) 0 0 (fun _ => False) := by
  refine Met.ofW (cc := bM_thrown) (maxL := 1) (ret := (some .int)) (by decide) rfl ?_
  intro p e s m args below meth c s₁ B hml hv
  obtain ⟨rfl, hP, hK⟩ := hv
  have hx := B.exec
  have hb := B.bytes
  have hr := B.returns
  have hts := atoms_spec (ws := wM_thrown) B.pre
  have hk : ∀ w ∈ W0, w.before _ s = true := fun w h => hts w (List.mem_cons_of_mem _ h)
  have hown : s.vm.findClass "ImageGcdsModel" = some m.cls := findClass_of_methodNamed B.named
  have hlocks := B.notSynchronized
  have hl := lv_entry ([.ref h0]) (n := 1) (Nat.le_of_ble_eq_true rfl)
  rw [lg_entry_eq]
  generalize (lg_sl ([.ref h0]) ++ List.replicate (1 - (lg_sl ([.ref h0])).length) Slot.unset).toArray = ls at hl ⊢
  have hl : lv_has ls 1 [(0, .ref h0)] := hl
  refine lv_aload_n hx hb dM_thrown_0 rfl (lv_at hl 0 rfl) ?_
  refine va_get (D := (dC, dI)) (ci := 2) (v := .int th) (C := "ImageGcdsModel") (T := TM) (N := 25) hx hb hk uM hown hK hP 0 rfl rfl 0 (by decide) (hk _ k73) (fun _ h9 => h9) rfl dM_thrown_1 ?_
  exact W.iret (v := th) hx hb hr (fun t ht hW => ⟨_, rfl, rfl, ht⟩) (fun q h => nomatch h) dM_thrown_4
set_option maxHeartbeats 4000000 in
set_option maxRecDepth 100000 in
theorem cM_fails1 (l : Launch) (dC : Nat → ClassId) (dI : Nat → Nat → Nat) (h0 : Nat) (th le : Int32) (fs : List Value) (x y : Int32) : Met l yM_fails wM_fails ({ frames := 0, cells := 0, slots := 0, locals := 0 }) (va_Pc [.ref h0, .int 1, .int x, .int y] (mU dC dI h0 th le fs)) (va_Qi (fun (r : Int32) (_ : Unit) => r = 1) (fun _ t => mU dC dI h0 1 le fs t) (fun q => q = h0)) 0 0 (fun q => q = h0) := by
  refine Met.ofW (cc := bM_fails) (maxL := 4) (ret := (some .boolean)) (by decide) rfl ?_
  intro p e s m args below meth c s₁ B hml hv
  obtain ⟨rfl, hP, hK⟩ := hv
  have hx := B.exec
  have hb := B.bytes
  have hr := B.returns
  have hts := atoms_spec (ws := wM_fails) B.pre
  have hk : ∀ w ∈ W0, w.before _ s = true := fun w h => hts w (List.mem_cons_of_mem _ h)
  have hown : s.vm.findClass "ImageGcdsModel" = some m.cls := findClass_of_methodNamed B.named
  have hlocks := B.notSynchronized
  have hD : va_D (fun q : Nat => q = h0) (mW h0 th le 0 fs) := mD
  have hS : va_S (fun q : Nat => q = h0) s.heap s.heap [] := va_S.rf
  have hl := lv_entry ([.ref h0, .int 1, .int x, .int y]) (n := 4) (Nat.le_of_ble_eq_true rfl)
  rw [lg_entry_eq]
  generalize (lg_sl ([.ref h0, .int 1, .int x, .int y]) ++ List.replicate (4 - (lg_sl ([.ref h0, .int 1, .int x, .int y])).length) Slot.unset).toArray = ls at hl ⊢
  have hl : lv_has ls 4 [(0, .ref h0), (1, .int 1), (2, .int x), (3, .int y)] := hl
  refine lv_aload_n hx hb dM_fails_0 rfl (lv_at hl 0 rfl) ?_
  refine lv_iload_n hx hb dM_fails_1 rfl (lv_at hl 1 rfl) ?_
  refine lv_if_eq (tgt := 9) hx hb dM_fails_2 (by decide) (fun c14 => ?_) (fun c14 => ?_)
  · skip
    exact absurd c14 (by decide)
  · skip
    refine lv_iconst (v := 1) hx hb dM_fails_5 (by decide) ?_
    refine lv_goto (tgt := 26) hx hb dM_fails_6 (by decide) ?_
    refine va_put (D := (dC, dI)) (ci := 2) (v := .int 1) (ty := .int) (C := "ImageGcdsModel") (T := TM) (N := 25) hx hb hk uM tM tM_ok nM hown hK hP hD hS 0 rfl rfl 0 (by decide) (hk _ k73) (fun _ h9 => h9) rfl (by decide +kernel) rfl rfl (by simp) dM_fails_26 (fun H locs hP hD hS => ?_)
    have hP : va_P (dC, dI) cls9 (mW h0 1 le 0 fs) H := hP
    have hD : va_D (fun q : Nat => q = h0) (mW h0 1 le 0 fs) := hD
    refine lv_aload_n hx hb dM_fails_29 rfl (lv_at hl 0 rfl) ?_
    refine va_get (D := (dC, dI)) (ci := 2) (v := .int 1) (C := "ImageGcdsModel") (T := TM) (N := 25) hx hb hk uM hown hK hP 0 rfl rfl 0 (by decide) (hk _ k73) (fun _ h9 => h9) rfl dM_fails_30 ?_
    refine lv_if_le (tgt := 40) hx hb dM_fails_33 (by decide) (fun c15 => ?_) (fun c15 => ?_)
    · skip
      exact absurd c15 (by decide)
    · skip
      refine lv_iconst (v := 1) hx hb dM_fails_36 (by decide) ?_
      refine lv_goto (tgt := 41) hx hb dM_fails_37 (by decide) ?_
      exact W.zret (v := 1) hx hb hr rfl (fun t ht hW => ⟨⟨1, (), rfl, rfl, by rw [ht]; exact hP, va_K.moved hW.alike hK⟩, hS.F ht⟩) hS.2.2 dM_fails_41
set_option maxHeartbeats 4000000 in
set_option maxRecDepth 100000 in
theorem cM_fails0 (l : Launch) (dC : Nat → ClassId) (dI : Nat → Nat → Nat) (h0 : Nat) (th le : Int32) (fs : List Value) : Met l yM_fails wM_fails ({ frames := 0, cells := 0, slots := 0, locals := 0 }) (va_Pc [.ref h0, .int 0, .int 0, .int 0] (mU dC dI h0 th le fs)) (va_Qi (fun (r : Int32) (_ : Unit) => r = 0) (fun _ t => mU dC dI h0 0 le fs t) (fun q => q = h0)) 0 0 (fun q => q = h0) := by
  refine Met.ofW (cc := bM_fails) (maxL := 4) (ret := (some .boolean)) (by decide) rfl ?_
  intro p e s m args below meth c s₁ B hml hv
  obtain ⟨rfl, hP, hK⟩ := hv
  have hx := B.exec
  have hb := B.bytes
  have hr := B.returns
  have hts := atoms_spec (ws := wM_fails) B.pre
  have hk : ∀ w ∈ W0, w.before _ s = true := fun w h => hts w (List.mem_cons_of_mem _ h)
  have hown : s.vm.findClass "ImageGcdsModel" = some m.cls := findClass_of_methodNamed B.named
  have hlocks := B.notSynchronized
  have hD : va_D (fun q : Nat => q = h0) (mW h0 th le 0 fs) := mD
  have hS : va_S (fun q : Nat => q = h0) s.heap s.heap [] := va_S.rf
  have hl := lv_entry ([.ref h0, .int 0, .int 0, .int 0]) (n := 4) (Nat.le_of_ble_eq_true rfl)
  rw [lg_entry_eq]
  generalize (lg_sl ([.ref h0, .int 0, .int 0, .int 0]) ++ List.replicate (4 - (lg_sl ([.ref h0, .int 0, .int 0, .int 0])).length) Slot.unset).toArray = ls at hl ⊢
  have hl : lv_has ls 4 [(0, .ref h0), (1, .int 0), (2, .int 0), (3, .int 0)] := hl
  refine lv_aload_n hx hb dM_fails_0 rfl (lv_at hl 0 rfl) ?_
  refine lv_iload_n hx hb dM_fails_1 rfl (lv_at hl 1 rfl) ?_
  refine lv_if_eq (tgt := 9) hx hb dM_fails_2 (by decide) (fun c16 => ?_) (fun c16 => ?_)
  · skip
    refine lv_iload_n hx hb dM_fails_9 rfl (lv_at hl 2 rfl) ?_
    refine lv_if_eq (tgt := 17) hx hb dM_fails_10 (by decide) (fun c17 => ?_) (fun c17 => ?_)
    · skip
      refine lv_iload_n hx hb dM_fails_17 rfl (lv_at hl 3 rfl) ?_
      refine lv_if_eq (tgt := 25) hx hb dM_fails_18 (by decide) (fun c18 => ?_) (fun c18 => ?_)
      · skip
        refine lv_iconst (v := 0) hx hb dM_fails_25 (by decide) ?_
        refine va_put (D := (dC, dI)) (ci := 2) (v := .int 0) (ty := .int) (C := "ImageGcdsModel") (T := TM) (N := 25) hx hb hk uM tM tM_ok nM hown hK hP hD hS 0 rfl rfl 0 (by decide) (hk _ k73) (fun _ h9 => h9) rfl (by decide +kernel) rfl rfl (by simp) dM_fails_26 (fun H locs hP hD hS => ?_)
        have hP : va_P (dC, dI) cls9 (mW h0 0 le 0 fs) H := hP
        have hD : va_D (fun q : Nat => q = h0) (mW h0 0 le 0 fs) := hD
        refine lv_aload_n hx hb dM_fails_29 rfl (lv_at hl 0 rfl) ?_
        refine va_get (D := (dC, dI)) (ci := 2) (v := .int 0) (C := "ImageGcdsModel") (T := TM) (N := 25) hx hb hk uM hown hK hP 0 rfl rfl 0 (by decide) (hk _ k73) (fun _ h9 => h9) rfl dM_fails_30 ?_
        refine lv_if_le (tgt := 40) hx hb dM_fails_33 (by decide) (fun c19 => ?_) (fun c19 => ?_)
        · skip
          refine lv_iconst (v := 0) hx hb dM_fails_40 (by decide) ?_
          exact W.zret (v := 0) hx hb hr rfl (fun t ht hW => ⟨⟨0, (), rfl, rfl, by rw [ht]; exact hP, va_K.moved hW.alike hK⟩, hS.F ht⟩) hS.2.2 dM_fails_41
        · skip
          exact absurd c19 (by decide)
      · skip
        exact absurd c18 (by decide)
    · skip
      exact absurd c17 (by decide)
  · skip
    exact absurd c16 (by decide)
set_option maxHeartbeats 4000000 in
set_option maxRecDepth 100000 in
theorem cM_count (l : Launch) (dC : Nat → ClassId) (dI : Nat → Nat → Nat) (h0 : Nat) (th le : Int32) (fs : List Value) : Met l yM_count wM_count ({ frames := 0, cells := 0, slots := 0, locals := 0 }) (va_Pc [.ref h0] (mU dC dI h0 th le fs)) (va_Qi (fun (r : Int32) (_ : Unit) => r = 0) (fun _ t => mU dC dI h0 0 le fs t) (fun q => q = h0)) 0 0 (fun q => q = h0) := by
  refine Met.ofW (cc := bM_count) (maxL := 1) (ret := (some .int)) (by decide) rfl ?_
  intro p e s m args below meth c s₁ B hml hv
  obtain ⟨rfl, hP, hK⟩ := hv
  have hx := B.exec
  have hb := B.bytes
  have hr := B.returns
  have hts := atoms_spec (ws := wM_count) B.pre
  have hk : ∀ w ∈ W0, w.before _ s = true := fun w h => hts w (List.mem_cons_of_mem _ h)
  have hown : s.vm.findClass "ImageGcdsModel" = some m.cls := findClass_of_methodNamed B.named
  have hlocks := B.notSynchronized
  have hD : va_D (fun q : Nat => q = h0) (mW h0 th le 0 fs) := mD
  have hS : va_S (fun q : Nat => q = h0) s.heap s.heap [] := va_S.rf
  have hl := lv_entry ([.ref h0]) (n := 1) (Nat.le_of_ble_eq_true rfl)
  rw [lg_entry_eq]
  generalize (lg_sl ([.ref h0]) ++ List.replicate (1 - (lg_sl ([.ref h0])).length) Slot.unset).toArray = ls at hl ⊢
  have hl : lv_has ls 1 [(0, .ref h0)] := hl
  refine lv_aload_n hx hb dM_count_0 rfl (lv_at hl 0 rfl) ?_
  refine lv_iconst (v := 0) hx hb dM_count_1 (by decide) ?_
  refine va_put (D := (dC, dI)) (ci := 2) (v := .int 0) (ty := .int) (C := "ImageGcdsModel") (T := TM) (N := 25) hx hb hk uM tM tM_ok nM hown hK hP hD hS 0 rfl rfl 0 (by decide) (hk _ k73) (fun _ h9 => h9) rfl (by decide +kernel) rfl rfl (by simp) dM_count_2 (fun H locs hP hD hS => ?_)
  have hP : va_P (dC, dI) cls9 (mW h0 0 le 0 fs) H := hP
  have hD : va_D (fun q : Nat => q = h0) (mW h0 0 le 0 fs) := hD
  refine lv_aload_n hx hb dM_count_5 rfl (lv_at hl 0 rfl) ?_
  refine va_get (D := (dC, dI)) (ci := 2) (v := .int 0) (C := "ImageGcdsModel") (T := TM) (N := 25) hx hb hk uM hown hK hP 0 rfl rfl 2 (by decide) (hk _ k66) (fun _ h9 => h9) rfl dM_count_6 ?_
  exact W.iret (v := 0) hx hb hr (fun t ht hW => ⟨⟨0, (), rfl, rfl, by rw [ht]; exact hP, va_K.moved hW.alike hK⟩, hS.F ht⟩) hS.2.2 dM_count_9
end
section
def gI9 (A : Nat → Prop) (dC : Nat → ClassId) (dI : Nat → Nat → Nat) (h0 : Nat) (t : State) : Prop := ∃ (le : Int32) (qp : Nat) (cA : ClassId), va_P (dC, dI) cls9 [(h0, .inr (0, [.int le, .ref qp, .int 0, .null])), (qp, .inl (cA, 60, .inr (.inr (.inr (.inr (fun _ => none))))))] t.heap ∧ va_K (dC, dI) cls9 [(cA, .object "ImageGcds$Poly")] t ∧ va_D A [(h0, .inr (0, [.int le, .ref qp, .int 0, .null])), (qp, .inl (cA, 60, .inr (.inr (.inr (.inr (fun _ => none))))))]
def mI9 (A : Nat → Prop) (dC : Nat → ClassId) (dI : Nat → Nat → Nat) (h0 : Nat) (t : State) : Prop := ∃ (le : Int32) (qn : Nat) (cA : ClassId) (f : Nat → Int32) (fs : List Value), va_P (dC, dI) cls9 [(h0, .inr (2, .int 0 :: .int le :: .int 0 :: .ref qn :: fs)), (qn, .inl (cA, 290816, .inl f))] t.heap ∧ va_K (dC, dI) cls9 [(cA, .int)] t ∧ va_D A [(h0, .inr (2, .int 0 :: .int le :: .int 0 :: .ref qn :: fs)), (qn, .inl (cA, 290816, .inl f))]
def pI9 (A : Nat → Prop) (dC : Nat → ClassId) (dI : Nat → Nat → Nat) (h0 : Nat) (t : State) : Prop := ∃ (q1 q2 : Nat), va_P (dC, dI) cls9 [(h0, .inr (1, [.int 0, .ref q1, .ref q2]))] t.heap ∧ va_K (dC, dI) cls9 [] t ∧ va_D A [(h0, .inr (1, [.int 0, .ref q1, .ref q2]))]
set_option maxHeartbeats 4000000 in
set_option maxRecDepth 100000 in
theorem cG_init (l : Launch) (dC : Nat → ClassId) (dI : Nat → Nat → Nat) (h0 : Nat) (sz : Nat) (p0 : Int32) : Met l yG_init wG_init ({ frames := 1, cells := 1, slots := 60, locals := 20 }) (va_Pc [.ref h0, .int p0] (fun U => U.heap.size = sz ∧ va_P (dC, dI) cls9 [(h0, .inr (0, [.int 0, .null, .int 0, .null]))] U.heap ∧ va_K (dC, dI) cls9 [] U ∧ va_AO "ImageGcds$Poly" U)) (va_Qv (fun _ : Unit => True) (fun _ t => gI9 (va_A [(h0, .inr (0, [.int 0, .null, .int 0, .null]))] sz) dC dI h0 t) (va_A [(h0, .inr (0, [.int 0, .null, .int 0, .null]))] sz)) 1 60 (va_A [(h0, .inr (0, [.int 0, .null, .int 0, .null]))] sz) := by
  refine Met.ofW (cc := bG_init) (maxL := 2) (ret := none) (by decide) rfl ?_
  intro p e s m args below meth c s₁ B hml hv
  obtain ⟨rfl, hsz, hP, hK, hAO⟩ := hv
  have hx := B.exec
  have hb := B.bytes
  have hr := B.returns
  have hts := atoms_spec (ws := wG_init) B.pre
  have hk : ∀ w ∈ W0, w.before _ s = true := fun w h => hts w (List.mem_cons_of_mem _ h)
  have hown : s.vm.findClass "ImageGcds" = some m.cls := findClass_of_methodNamed B.named
  have hlocks := B.notSynchronized
  have hin : meth.name = "<init>" := (name_of_methodNamed B.named B.method).1
  subst hsz
  have hD : va_D (va_A [(h0, .inr (0, [.int 0, .null, .int 0, .null]))] s.heap.size) [(h0, .inr (0, [.int 0, .null, .int 0, .null]))] := mD.self
  generalize hAe : va_A [(h0, .inr (0, [.int 0, .null, .int 0, .null]))] s.heap.size = A at hD ⊢
  have hA : ∀ q : Nat, s.heap.size ≤ q → A q := fun q h => by rw [← hAe]; exact Or.inr h
  have hS : va_S A s.heap s.heap [] := va_S.rf
  have hP : va_P (dC, dI) cls9 [(h0, .inr (0, [.int 0, .null, .int 0, .null]))] s.heap := hP
  have hl := lv_entry ([.ref h0, .int p0]) (n := 2) (Nat.le_of_ble_eq_true rfl)
  rw [lg_entry_eq]
  generalize (lg_sl ([.ref h0, .int p0]) ++ List.replicate (2 - (lg_sl ([.ref h0, .int p0])).length) Slot.unset).toArray = ls at hl ⊢
  have hl : lv_has ls 2 [(0, .ref h0), (1, .int p0)] := hl
  refine lv_aload_n hx hb dG_init_0 rfl (lv_at hl 0 rfl) ?_
  refine W.objInit hx hb hown (hk _ k93) (hk _ k94) (hk _ k95) rfl (by rw [hml]; exact hl.1) rfl dG_init_1 (Nat.le_of_ble_eq_true rfl) (Nat.le_of_ble_eq_true rfl) ?_
  refine W.eq (g2 := F0 m 4 ls []) rfl ?_
  refine lv_aload_n hx hb dG_init_4 rfl (lv_at hl 0 rfl) ?_
  refine lv_iload_n hx hb dG_init_5 rfl (lv_at hl 1 rfl) ?_
  refine lv_iconst (v := 1) hx hb dG_init_6 (by decide) ?_
  refine lv_icmp_ge (tgt := 14) hx hb dG_init_7 (by decide) (fun c120 => ?_) (fun c120 => ?_)
  · skip
    refine lv_iload_n hx hb dG_init_14 rfl (lv_at hl 1 rfl) ?_
    refine lv_iconst (v := 3) hx hb dG_init_15 (by decide) ?_
    refine lv_icmp_le (tgt := 23) hx hb dG_init_16 (by decide) (fun c121 => ?_) (fun c121 => ?_)
    · skip
      refine lv_iload_n hx hb dG_init_23 rfl (lv_at hl 1 rfl) ?_
      refine va_putF (D := (dC, dI)) (ci := 0) (v := .int p0) (ty := .int) (C := "ImageGcds") (T := TG) (N := 4) hx hb hk uG tG tG_ok nG hown hK hP hD hS 0 rfl rfl 0 (by decide) (hk _ k96) (fun _ h9 => h9) rfl hin rfl (by decide +kernel) rfl rfl (Nat.le_of_ble_eq_true rfl) dG_init_24 (fun H locs hP hD hS => ?_)
      have hP : va_P (dC, dI) cls9 [(h0, .inr (0, [.int p0, .null, .int 0, .null]))] H := hP
      have hD : va_D A [(h0, .inr (0, [.int p0, .null, .int 0, .null]))] := hD
      refine lv_aload_n hx hb dG_init_27 rfl (lv_at hl 0 rfl) ?_
      refine lv_bipush (v := 60) hx hb dG_init_28 (by decide) ?_
      refine va_newq (N' := 60) (C := "ImageGcds$Poly") hx hb hown (hk _ k97) hAO hK hP hD hS hA (by decide) (by decide) (by decide) (Nat.le_of_ble_eq_true rfl) (Nat.le_of_ble_eq_true rfl) dG_init_30 (fun q122 cA123 H hK hP hD hS => ?_)
      have hP : va_P (dC, dI) cls9 [(h0, .inr (0, [.int p0, .null, .int 0, .null])), (q122, .inl (cA123, 60, .inr (.inr (.inr (.inr (fun _ => none))))))] H := hP
      have hD : va_D A [(h0, .inr (0, [.int p0, .null, .int 0, .null])), (q122, .inl (cA123, 60, .inr (.inr (.inr (.inr (fun _ => none))))))] := hD
      have hK : va_K (dC, dI) cls9 [(cA123, .object "ImageGcds$Poly")] s := hK
      refine va_putF (D := (dC, dI)) (ci := 0) (v := .ref q122) (ty := .array (.object "ImageGcds$Poly")) (C := "ImageGcds") (T := TG) (N := 4) hx hb hk uG tG tG_ok nG hown hK hP hD hS 0 rfl rfl 1 (by decide) (hk _ k98) (fun _ h9 => h9) rfl hin rfl (by decide +kernel) rfl rfl (Nat.le_of_ble_eq_true rfl) dG_init_33 (fun H locs hP hD hS => ?_)
      have hP : va_P (dC, dI) cls9 [(h0, .inr (0, [.int p0, .ref q122, .int 0, .null])), (q122, .inl (cA123, 60, .inr (.inr (.inr (.inr (fun _ => none))))))] H := hP
      have hD : va_D A [(h0, .inr (0, [.int p0, .ref q122, .int 0, .null])), (q122, .inl (cA123, 60, .inr (.inr (.inr (.inr (fun _ => none))))))] := hD
      refine lv_aload_n hx hb dG_init_36 rfl (lv_at hl 0 rfl) ?_
      refine lv_iconst (v := 0) hx hb dG_init_37 (by decide) ?_
      refine va_put (D := (dC, dI)) (ci := 0) (v := .int 0) (ty := .int) (C := "ImageGcds") (T := TG) (N := 4) hx hb hk uG tG tG_ok nG hown hK hP hD hS 0 rfl rfl 2 (by decide) (hk _ k2) (fun _ h9 => h9) rfl (by decide +kernel) rfl rfl (Nat.le_of_ble_eq_true rfl) dG_init_38 (fun H locs hP hD hS => ?_)
      have hP : va_P (dC, dI) cls9 [(h0, .inr (0, [.int p0, .ref q122, .int 0, .null])), (q122, .inl (cA123, 60, .inr (.inr (.inr (.inr (fun _ => none))))))] H := hP
      have hD : va_D A [(h0, .inr (0, [.int p0, .ref q122, .int 0, .null])), (q122, .inl (cA123, 60, .inr (.inr (.inr (.inr (fun _ => none))))))] := hD
      have hP9 := hP.sub (ws' := [(h0, .inr (0, [.int p0, .ref q122, .int 0, .null])), (q122, .inl (cA123, 60, .inr (.inr (.inr (.inr (fun _ => none))))))]) [0, 1] rfl
      have hD9 := hD.sub (ws' := [(h0, .inr (0, [.int p0, .ref q122, .int 0, .null])), (q122, .inl (cA123, 60, .inr (.inr (.inr (.inr (fun _ => none))))))]) [0, 1] (by decide) rfl
      have hK9 := hK.sub (tys' := [(cA123, .object "ImageGcds$Poly")]) [0] rfl
      refine W.widen (k := 1) (n := 60) (Nat.le_of_ble_eq_true rfl) (Nat.le_of_ble_eq_true rfl) ?_
      exact W.vret hx hb hr (fun t ht hW => ⟨⟨(), rfl, trivial, _, _, _, by rw [ht]; exact hP9, va_K.moved hW.alike hK9, hD9⟩, hS.F ht⟩) hS.2.2 dG_init_41
    · skip
      refine lv_iconst (v := 3) hx hb dG_init_19 (by decide) ?_
      refine lv_goto (tgt := 24) hx hb dG_init_20 (by decide) ?_
      refine va_putF (D := (dC, dI)) (ci := 0) (v := .int 3) (ty := .int) (C := "ImageGcds") (T := TG) (N := 4) hx hb hk uG tG tG_ok nG hown hK hP hD hS 0 rfl rfl 0 (by decide) (hk _ k96) (fun _ h9 => h9) rfl hin rfl (by decide +kernel) rfl rfl (Nat.le_of_ble_eq_true rfl) dG_init_24 (fun H locs hP hD hS => ?_)
      have hP : va_P (dC, dI) cls9 [(h0, .inr (0, [.int 3, .null, .int 0, .null]))] H := hP
      have hD : va_D A [(h0, .inr (0, [.int 3, .null, .int 0, .null]))] := hD
      refine lv_aload_n hx hb dG_init_27 rfl (lv_at hl 0 rfl) ?_
      refine lv_bipush (v := 60) hx hb dG_init_28 (by decide) ?_
      refine va_newq (N' := 60) (C := "ImageGcds$Poly") hx hb hown (hk _ k97) hAO hK hP hD hS hA (by decide) (by decide) (by decide) (Nat.le_of_ble_eq_true rfl) (Nat.le_of_ble_eq_true rfl) dG_init_30 (fun q124 cA125 H hK hP hD hS => ?_)
      have hP : va_P (dC, dI) cls9 [(h0, .inr (0, [.int 3, .null, .int 0, .null])), (q124, .inl (cA125, 60, .inr (.inr (.inr (.inr (fun _ => none))))))] H := hP
      have hD : va_D A [(h0, .inr (0, [.int 3, .null, .int 0, .null])), (q124, .inl (cA125, 60, .inr (.inr (.inr (.inr (fun _ => none))))))] := hD
      have hK : va_K (dC, dI) cls9 [(cA125, .object "ImageGcds$Poly")] s := hK
      refine va_putF (D := (dC, dI)) (ci := 0) (v := .ref q124) (ty := .array (.object "ImageGcds$Poly")) (C := "ImageGcds") (T := TG) (N := 4) hx hb hk uG tG tG_ok nG hown hK hP hD hS 0 rfl rfl 1 (by decide) (hk _ k98) (fun _ h9 => h9) rfl hin rfl (by decide +kernel) rfl rfl (Nat.le_of_ble_eq_true rfl) dG_init_33 (fun H locs hP hD hS => ?_)
      have hP : va_P (dC, dI) cls9 [(h0, .inr (0, [.int 3, .ref q124, .int 0, .null])), (q124, .inl (cA125, 60, .inr (.inr (.inr (.inr (fun _ => none))))))] H := hP
      have hD : va_D A [(h0, .inr (0, [.int 3, .ref q124, .int 0, .null])), (q124, .inl (cA125, 60, .inr (.inr (.inr (.inr (fun _ => none))))))] := hD
      refine lv_aload_n hx hb dG_init_36 rfl (lv_at hl 0 rfl) ?_
      refine lv_iconst (v := 0) hx hb dG_init_37 (by decide) ?_
      refine va_put (D := (dC, dI)) (ci := 0) (v := .int 0) (ty := .int) (C := "ImageGcds") (T := TG) (N := 4) hx hb hk uG tG tG_ok nG hown hK hP hD hS 0 rfl rfl 2 (by decide) (hk _ k2) (fun _ h9 => h9) rfl (by decide +kernel) rfl rfl (Nat.le_of_ble_eq_true rfl) dG_init_38 (fun H locs hP hD hS => ?_)
      have hP : va_P (dC, dI) cls9 [(h0, .inr (0, [.int 3, .ref q124, .int 0, .null])), (q124, .inl (cA125, 60, .inr (.inr (.inr (.inr (fun _ => none))))))] H := hP
      have hD : va_D A [(h0, .inr (0, [.int 3, .ref q124, .int 0, .null])), (q124, .inl (cA125, 60, .inr (.inr (.inr (.inr (fun _ => none))))))] := hD
      have hP9 := hP.sub (ws' := [(h0, .inr (0, [.int 3, .ref q124, .int 0, .null])), (q124, .inl (cA125, 60, .inr (.inr (.inr (.inr (fun _ => none))))))]) [0, 1] rfl
      have hD9 := hD.sub (ws' := [(h0, .inr (0, [.int 3, .ref q124, .int 0, .null])), (q124, .inl (cA125, 60, .inr (.inr (.inr (.inr (fun _ => none))))))]) [0, 1] (by decide) rfl
      have hK9 := hK.sub (tys' := [(cA125, .object "ImageGcds$Poly")]) [0] rfl
      refine W.widen (k := 1) (n := 60) (Nat.le_of_ble_eq_true rfl) (Nat.le_of_ble_eq_true rfl) ?_
      exact W.vret hx hb hr (fun t ht hW => ⟨⟨(), rfl, trivial, _, _, _, by rw [ht]; exact hP9, va_K.moved hW.alike hK9, hD9⟩, hS.F ht⟩) hS.2.2 dG_init_41
  · skip
    refine lv_iconst (v := 1) hx hb dG_init_10 (by decide) ?_
    refine lv_goto (tgt := 24) hx hb dG_init_11 (by decide) ?_
    refine va_putF (D := (dC, dI)) (ci := 0) (v := .int 1) (ty := .int) (C := "ImageGcds") (T := TG) (N := 4) hx hb hk uG tG tG_ok nG hown hK hP hD hS 0 rfl rfl 0 (by decide) (hk _ k96) (fun _ h9 => h9) rfl hin rfl (by decide +kernel) rfl rfl (Nat.le_of_ble_eq_true rfl) dG_init_24 (fun H locs hP hD hS => ?_)
    have hP : va_P (dC, dI) cls9 [(h0, .inr (0, [.int 1, .null, .int 0, .null]))] H := hP
    have hD : va_D A [(h0, .inr (0, [.int 1, .null, .int 0, .null]))] := hD
    refine lv_aload_n hx hb dG_init_27 rfl (lv_at hl 0 rfl) ?_
    refine lv_bipush (v := 60) hx hb dG_init_28 (by decide) ?_
    refine va_newq (N' := 60) (C := "ImageGcds$Poly") hx hb hown (hk _ k97) hAO hK hP hD hS hA (by decide) (by decide) (by decide) (Nat.le_of_ble_eq_true rfl) (Nat.le_of_ble_eq_true rfl) dG_init_30 (fun q126 cA127 H hK hP hD hS => ?_)
    have hP : va_P (dC, dI) cls9 [(h0, .inr (0, [.int 1, .null, .int 0, .null])), (q126, .inl (cA127, 60, .inr (.inr (.inr (.inr (fun _ => none))))))] H := hP
    have hD : va_D A [(h0, .inr (0, [.int 1, .null, .int 0, .null])), (q126, .inl (cA127, 60, .inr (.inr (.inr (.inr (fun _ => none))))))] := hD
    have hK : va_K (dC, dI) cls9 [(cA127, .object "ImageGcds$Poly")] s := hK
    refine va_putF (D := (dC, dI)) (ci := 0) (v := .ref q126) (ty := .array (.object "ImageGcds$Poly")) (C := "ImageGcds") (T := TG) (N := 4) hx hb hk uG tG tG_ok nG hown hK hP hD hS 0 rfl rfl 1 (by decide) (hk _ k98) (fun _ h9 => h9) rfl hin rfl (by decide +kernel) rfl rfl (Nat.le_of_ble_eq_true rfl) dG_init_33 (fun H locs hP hD hS => ?_)
    have hP : va_P (dC, dI) cls9 [(h0, .inr (0, [.int 1, .ref q126, .int 0, .null])), (q126, .inl (cA127, 60, .inr (.inr (.inr (.inr (fun _ => none))))))] H := hP
    have hD : va_D A [(h0, .inr (0, [.int 1, .ref q126, .int 0, .null])), (q126, .inl (cA127, 60, .inr (.inr (.inr (.inr (fun _ => none))))))] := hD
    refine lv_aload_n hx hb dG_init_36 rfl (lv_at hl 0 rfl) ?_
    refine lv_iconst (v := 0) hx hb dG_init_37 (by decide) ?_
    refine va_put (D := (dC, dI)) (ci := 0) (v := .int 0) (ty := .int) (C := "ImageGcds") (T := TG) (N := 4) hx hb hk uG tG tG_ok nG hown hK hP hD hS 0 rfl rfl 2 (by decide) (hk _ k2) (fun _ h9 => h9) rfl (by decide +kernel) rfl rfl (Nat.le_of_ble_eq_true rfl) dG_init_38 (fun H locs hP hD hS => ?_)
    have hP : va_P (dC, dI) cls9 [(h0, .inr (0, [.int 1, .ref q126, .int 0, .null])), (q126, .inl (cA127, 60, .inr (.inr (.inr (.inr (fun _ => none))))))] H := hP
    have hD : va_D A [(h0, .inr (0, [.int 1, .ref q126, .int 0, .null])), (q126, .inl (cA127, 60, .inr (.inr (.inr (.inr (fun _ => none))))))] := hD
    have hP9 := hP.sub (ws' := [(h0, .inr (0, [.int 1, .ref q126, .int 0, .null])), (q126, .inl (cA127, 60, .inr (.inr (.inr (.inr (fun _ => none))))))]) [0, 1] rfl
    have hD9 := hD.sub (ws' := [(h0, .inr (0, [.int 1, .ref q126, .int 0, .null])), (q126, .inl (cA127, 60, .inr (.inr (.inr (.inr (fun _ => none))))))]) [0, 1] (by decide) rfl
    have hK9 := hK.sub (tys' := [(cA127, .object "ImageGcds$Poly")]) [0] rfl
    refine W.widen (k := 1) (n := 60) (Nat.le_of_ble_eq_true rfl) (Nat.le_of_ble_eq_true rfl) ?_
    exact W.vret hx hb hr (fun t ht hW => ⟨⟨(), rfl, trivial, _, _, _, by rw [ht]; exact hP9, va_K.moved hW.alike hK9, hD9⟩, hS.F ht⟩) hS.2.2 dG_init_41
set_option maxHeartbeats 4000000 in
set_option maxRecDepth 100000 in
theorem cP_init (l : Launch) (dC : Nat → ClassId) (dI : Nat → Nat → Nat) (h0 : Nat) (sz : Nat) : Met l yP_init wP_init ({ frames := 1, cells := 2, slots := 0, locals := 20 }) (va_Pc [.ref h0, .int 0] (fun U => U.heap.size = sz ∧ va_P (dC, dI) cls9 [(h0, .inr (1, [.int 0, .null, .null]))] U.heap ∧ va_K (dC, dI) cls9 [] U)) (va_Qv (fun _ : Unit => True) (fun _ t => pI9 (va_A [(h0, .inr (1, [.int 0, .null, .null]))] sz) dC dI h0 t) (va_A [(h0, .inr (1, [.int 0, .null, .null]))] sz)) 2 0 (va_A [(h0, .inr (1, [.int 0, .null, .null]))] sz) := by
  refine Met.ofW (cc := bP_init) (maxL := 3) (ret := none) (by decide) rfl ?_
  intro p e s m args below meth c s₁ B hml hv
  obtain ⟨rfl, hsz, hP, hK⟩ := hv
  have hx := B.exec
  have hb := B.bytes
  have hr := B.returns
  have hts := atoms_spec (ws := wP_init) B.pre
  have hk : ∀ w ∈ W0, w.before _ s = true := fun w h => hts w (List.mem_cons_of_mem _ h)
  have hown : s.vm.findClass "ImageGcds$Poly" = some m.cls := findClass_of_methodNamed B.named
  have hlocks := B.notSynchronized
  have hin : meth.name = "<init>" := (name_of_methodNamed B.named B.method).1
  subst hsz
  have hD : va_D (va_A [(h0, .inr (1, [.int 0, .null, .null]))] s.heap.size) [(h0, .inr (1, [.int 0, .null, .null]))] := mD.self
  generalize hAe : va_A [(h0, .inr (1, [.int 0, .null, .null]))] s.heap.size = A at hD ⊢
  have hA : ∀ q : Nat, s.heap.size ≤ q → A q := fun q h => by rw [← hAe]; exact Or.inr h
  have hS : va_S A s.heap s.heap [] := va_S.rf
  have hP : va_P (dC, dI) cls9 [(h0, .inr (1, [.int 0, .null, .null]))] s.heap := hP
  have hl := lv_entry ([.ref h0, .int 0]) (n := 3) (Nat.le_of_ble_eq_true rfl)
  rw [lg_entry_eq]
  generalize (lg_sl ([.ref h0, .int 0]) ++ List.replicate (3 - (lg_sl ([.ref h0, .int 0])).length) Slot.unset).toArray = ls at hl ⊢
  have hl : lv_has ls 3 [(0, .ref h0), (1, .int 0)] := hl
  refine lv_aload_n hx hb dP_init_0 rfl (lv_at hl 0 rfl) ?_
  refine W.objInit hx hb hown (hk _ k120) (hk _ k94) (hk _ k95) rfl (by rw [hml]; exact hl.1) rfl dP_init_1 (Nat.le_of_ble_eq_true rfl) (Nat.le_of_ble_eq_true rfl) ?_
  refine W.eq (g2 := F0 m 4 ls []) rfl ?_
  refine lv_iload_n hx hb dP_init_4 rfl (lv_at hl 1 rfl) ?_
  refine lv_if_ge (tgt := 12) hx hb dP_init_5 (by decide) (fun c166 => ?_) (fun c166 => ?_)
  · skip
    refine lv_iload_n hx hb dP_init_12 rfl (lv_at hl 1 rfl) ?_
    refine lv_istore_n (lv' := [(2, .int 0), (0, .ref h0), (1, .int 0)]) hx hb dP_init_13 rfl hl (by decide) rfl (fun ls hl => ?_)
    refine lv_aload_n hx hb dP_init_14 rfl (lv_at hl 1 rfl) ?_
    refine lv_iconst (v := 0) hx hb dP_init_15 (by decide) ?_
    refine va_put (D := (dC, dI)) (ci := 1) (v := .int 0) (ty := .int) (C := "ImageGcds$Poly") (T := TP) (N := 3) hx hb hk uP tP tP_ok nP hown hK hP hD hS 0 rfl rfl 0 (by decide) (hk _ k121) (fun _ h9 => h9) rfl (by decide +kernel) rfl rfl (Nat.le_of_ble_eq_true rfl) dP_init_16 (fun H locs hP hD hS => ?_)
    have hP : va_P (dC, dI) cls9 [(h0, .inr (1, [.int 0, .null, .null]))] H := hP
    have hD : va_D A [(h0, .inr (1, [.int 0, .null, .null]))] := hD
    refine lv_aload_n hx hb dP_init_19 rfl (lv_at hl 1 rfl) ?_
    refine lv_iload_n hx hb dP_init_20 rfl (lv_at hl 0 rfl) ?_
    refine va_newa (ty := .int) (atype := .int) (a0 := (0, .inl (fun _ => 0))) (N' := 0) hx hb (hk _ k101) rfl hK hP hD hS hA (fun cA => vp_cell_i cA _ _) (by decide +kernel) (by decide +kernel) (by decide +kernel) (Nat.le_of_ble_eq_true rfl) (Nat.le_of_ble_eq_true rfl) dP_init_21 (fun q167 cA168 H hK hP hD hS => ?_)
    have hP : va_P (dC, dI) cls9 [(h0, .inr (1, [.int 0, .null, .null])), (q167, .inl (cA168, 0, .inl (fun _ => 0)))] H := hP
    have hD : va_D A [(h0, .inr (1, [.int 0, .null, .null])), (q167, .inl (cA168, 0, .inl (fun _ => 0)))] := hD
    have hK : va_K (dC, dI) cls9 [(cA168, .int)] s := hK
    refine va_put (D := (dC, dI)) (ci := 1) (v := .ref q167) (ty := .array .int) (C := "ImageGcds$Poly") (T := TP) (N := 3) hx hb hk uP tP tP_ok nP hown hK hP hD hS 0 rfl rfl 1 (by decide) (hk _ k122) (fun _ h9 => h9) rfl (by decide +kernel) rfl rfl (Nat.le_of_ble_eq_true rfl) dP_init_23 (fun H locs hP hD hS => ?_)
    have hP : va_P (dC, dI) cls9 [(h0, .inr (1, [.int 0, .ref q167, .null])), (q167, .inl (cA168, 0, .inl (fun _ => 0)))] H := hP
    have hD : va_D A [(h0, .inr (1, [.int 0, .ref q167, .null])), (q167, .inl (cA168, 0, .inl (fun _ => 0)))] := hD
    refine lv_aload_n hx hb dP_init_26 rfl (lv_at hl 1 rfl) ?_
    refine lv_iload_n hx hb dP_init_27 rfl (lv_at hl 0 rfl) ?_
    refine va_newa (ty := .int) (atype := .int) (a0 := (0, .inl (fun _ => 0))) (N' := 0) hx hb (hk _ k101) rfl hK hP hD hS hA (fun cA => vp_cell_i cA _ _) (by decide +kernel) (by decide +kernel) (by decide +kernel) (Nat.le_of_ble_eq_true rfl) (Nat.le_of_ble_eq_true rfl) dP_init_28 (fun q169 cA170 H hK hP hD hS => ?_)
    have hP : va_P (dC, dI) cls9 [(h0, .inr (1, [.int 0, .ref q167, .null])), (q167, .inl (cA168, 0, .inl (fun _ => 0))), (q169, .inl (cA170, 0, .inl (fun _ => 0)))] H := hP
    have hD : va_D A [(h0, .inr (1, [.int 0, .ref q167, .null])), (q167, .inl (cA168, 0, .inl (fun _ => 0))), (q169, .inl (cA170, 0, .inl (fun _ => 0)))] := hD
    have hK : va_K (dC, dI) cls9 [(cA168, .int), (cA170, .int)] s := hK
    refine va_put (D := (dC, dI)) (ci := 1) (v := .ref q169) (ty := .array .int) (C := "ImageGcds$Poly") (T := TP) (N := 3) hx hb hk uP tP tP_ok nP hown hK hP hD hS 0 rfl rfl 2 (by decide) (hk _ k123) (fun _ h9 => h9) rfl (by decide +kernel) rfl rfl (Nat.le_of_ble_eq_true rfl) dP_init_30 (fun H locs hP hD hS => ?_)
    have hP : va_P (dC, dI) cls9 [(h0, .inr (1, [.int 0, .ref q167, .ref q169])), (q167, .inl (cA168, 0, .inl (fun _ => 0))), (q169, .inl (cA170, 0, .inl (fun _ => 0)))] H := hP
    have hD : va_D A [(h0, .inr (1, [.int 0, .ref q167, .ref q169])), (q167, .inl (cA168, 0, .inl (fun _ => 0))), (q169, .inl (cA170, 0, .inl (fun _ => 0)))] := hD
    have hP9 := hP.sub (ws' := [(h0, .inr (1, [.int 0, .ref q167, .ref q169]))]) [0] rfl
    have hD9 := hD.sub (ws' := [(h0, .inr (1, [.int 0, .ref q167, .ref q169]))]) [0] (by decide) rfl
    have hK9 := hK.sub (tys' := []) [] rfl
    refine W.widen (k := 2) (n := 0) (Nat.le_of_ble_eq_true rfl) (Nat.le_of_ble_eq_true rfl) ?_
    exact W.vret hx hb hr (fun t ht hW => ⟨⟨(), rfl, trivial, _, _, by rw [ht]; exact hP9, va_K.moved hW.alike hK9, hD9⟩, hS.F ht⟩) hS.2.2 dP_init_33
  · skip
    exact absurd c166 (by decide)
set_option maxHeartbeats 4000000 in
set_option maxRecDepth 100000 in
theorem cG_count (l : Launch) (dC : Nat → ClassId) (dI : Nat → Nat → Nat) (h0 : Nat) (le : Int32) (qp sa : Nat) : Met l yG_count wG_count ({ frames := 0, cells := 0, slots := 0, locals := 0 }) (va_Pc [.ref h0] (gU dC dI h0 le qp sa)) (vp_Si (fun r => r = 0)) 0 0 (fun _ => False) := by
  refine Met.ofW (cc := bG_count) (maxL := 1) (ret := (some .int)) (by decide) rfl ?_
  intro p e s m args below meth c s₁ B hml hv
  obtain ⟨rfl, hU⟩ := hv
  have hx := B.exec
  have hb := B.bytes
  have hr := B.returns
  have hts := atoms_spec (ws := wG_count) B.pre
  have hk : ∀ w ∈ W0, w.before _ s = true := fun w h => hts w (List.mem_cons_of_mem _ h)
  have hown : s.vm.findClass "ImageGcds" = some m.cls := findClass_of_methodNamed B.named
  have hlocks := B.notSynchronized
  have hl := lv_entry ([.ref h0]) (n := 1) (Nat.le_of_ble_eq_true rfl)
  rw [lg_entry_eq]
  generalize (lg_sl ([.ref h0]) ++ List.replicate (1 - (lg_sl ([.ref h0])).length) Slot.unset).toArray = ls at hl ⊢
  have hl : lv_has ls 1 [(0, .ref h0)] := hl
  refine lv_aload_n hx hb dG_count_0 rfl (lv_at hl 0 rfl) ?_
  refine va_get (D := (dC, dI)) (ci := 0) (v := .int 0) (C := "ImageGcds") (T := TG) (N := 4) hx hb hk uG hown hU.2.1 hU.1 0 rfl rfl 2 (by decide) (hk _ k2) (fun _ h9 => h9) rfl dG_count_1 ?_
  exact W.iret (v := 0) hx hb hr (fun t ht hW => ⟨_, rfl, rfl, ht⟩) (fun q h => nomatch h) dG_count_4
set_option maxHeartbeats 4000000 in
set_option maxRecDepth 100000 in
theorem cL_cell (l : Launch) (b L : Nat) (xs : Nat → Int32) (hL : L < 2 ^ 31) : Met l yL_cell wL_cell ({ frames := 0, cells := 0, slots := 0, locals := 0 }) (va_Pc [.ref b, .int 0] (fun U => va_X b L xs U U.heap ∧ b < U.heap.size)) (vp_Si (fun _ => True)) 0 0 (fun _ => False) := by
  refine Met.ofW (cc := bL_cell) (maxL := 2) (ret := (some .int)) (by decide) rfl ?_
  intro p e s m args below meth c s₁ B hml hv
  obtain ⟨rfl, hX, hbl⟩ := hv
  have hx := B.exec
  have hb := B.bytes
  have hr := B.returns
  have hts := atoms_spec (ws := wL_cell) B.pre
  have hk : ∀ w ∈ W0, w.before _ s = true := fun w h => hts w (List.mem_cons_of_mem _ h)
  have hown : s.vm.findClass "ImageGcdsLaw" = some m.cls := findClass_of_methodNamed B.named
  have hlocks := B.notSynchronized
  have hl := lv_entry ([.ref b, .int 0]) (n := 2) (Nat.le_of_ble_eq_true rfl)
  rw [lg_entry_eq]
  generalize (lg_sl ([.ref b, .int 0]) ++ List.replicate (2 - (lg_sl ([.ref b, .int 0])).length) Slot.unset).toArray = ls at hl ⊢
  have hl : lv_has ls 2 [(0, .ref b), (1, .int 0)] := hl
  have hS : va_S (fun q : Nat => s.heap.size ≤ q) s.heap s.heap [] := va_S.rf
  have hbA : ¬ (fun q : Nat => s.heap.size ≤ q) b := Nat.not_le.mpr hbl
  refine lv_iload_n hx hb dL_cell_0 rfl (lv_at hl 1 rfl) ?_
  refine lv_aload_n hx hb dL_cell_1 rfl (lv_at hl 0 rfl) ?_
  refine va_slen hx hb hX hbl hbA hS dL_cell_2 ?_
  refine lv_icmp_ge (tgt := 12) hx hb dL_cell_3 (by decide) (fun c171 => ?_) (fun c171 => ?_)
  · skip
    refine lv_iconst (v := 0) hx hb dL_cell_12 (by decide) ?_
    exact W.iret (v := 0) hx hb hr (fun t ht hW => ⟨_, rfl, trivial, ht⟩) (fun q h => nomatch h) dL_cell_13
  · skip
    refine lv_aload_n hx hb dL_cell_6 rfl (lv_at hl 0 rfl) ?_
    refine lv_iload_n hx hb dL_cell_7 rfl (lv_at hl 1 rfl) ?_
    have hL0 : 0 < L := by
      rcases Nat.eq_zero_or_pos L with q | q
      · subst q; exact absurd (by decide) c171
      · exact q
    have hin : vp_in 0 L := by rw [← nI_0]; exact vp_in_nI hL0 hL
    refine va_sld hx hb hX hbl hbA hS hin dL_cell_8 ?_
    refine lv_topi (fun v172 ev172 => ?_)
    refine lv_goto (tgt := 13) hx hb dL_cell_9 (by decide) ?_
    exact W.iret (v := v172) hx hb hr (fun t ht hW => ⟨_, rfl, trivial, ht⟩) (fun q h => nomatch h) dL_cell_13
end
section
def nU (dC : Nat → ClassId) (dI : Nat → Nat → Nat) (ws : va_W) (tys : List (ClassId × FieldType)) (sz : Nat) (U : State) : Prop := U.heap.size = sz ∧ va_P (dC, dI) cls9 ws U.heap ∧ va_K (dC, dI) cls9 tys U ∧ va_D (fun _ => True) ws
theorem nBl {dC : Nat → ClassId} {dI : Nat → Nat → Nat} {ws : va_W} {tys : List (ClassId × FieldType)} {sz : Nat} {av : List Value} : FrameBlind (va_Pc av (nU dC dI ws tys sz)) := fun a U g mk q => ⟨q.1, q.2.1, q.2.2.1, va_K.moved (u := U) (U := U.calling g mk a) (Vm.Alike.refl U.vm) q.2.2.2.1, q.2.2.2.2⟩
theorem nPr {dC : Nat → ClassId} {dI : Nat → Nat → Nat} {ws : va_W} {tys : List (ClassId × FieldType)} {av : List Value} {s : State} {H : Heap} {A : Nat → Prop} (hP : va_P (dC, dI) cls9 ws H) (hK : va_K (dC, dI) cls9 tys s) (hD : va_D A ws) : ∀ U : State, U.heap = H → s.WarmedH U.vm → va_Pc av (nU dC dI ws tys H.size) av.toArray U := fun U hU hW => ⟨rfl, by rw [hU], by rw [hU]; exact hP, va_K.moved hW.alike hK, hD.weaken (fun _ _ _ _ => trivial)⟩
abbrev mN (h0 : Nat) (th le co : Int32) (qn : Nat) (fs : List Value) (cA : ClassId) (f : Nat → Int32) : va_W := [(h0, .inr (2, .int th :: .int le :: .int co :: .ref qn :: fs)), (qn, .inl (cA, 290816, .inl f))]
def nT (dC : Nat → ClassId) (dI : Nat → Nat → Nat) (h0 : Nat) (th le co : Int32) (qn : Nat) (fs : List Value) (cA : ClassId) (A : Nat → Prop) (t : State) : Prop := ∃ f : Nat → Int32, va_P (dC, dI) cls9 (mN h0 th le co qn fs cA f) t.heap ∧ va_K (dC, dI) cls9 [(cA, .int)] t ∧ va_D A (mN h0 th le co qn fs cA f)
set_option maxHeartbeats 4000000 in
set_option maxRecDepth 100000 in
theorem lp_clear {p : Program} {l : Launch} {e : Env} {R : Room} {s : State} {m : MethodId} {args : Array Value} {below : List Frame} {meth : Method} {c : Code} {Q : State → Prop} {cells slots : Nat} {dC : Nat → ClassId} {dI : Nat → Nat → Nat} {h0 : Nat} {th le : Int32} {qn : Nat} {fs : List Value} {cA : ClassId} {A : Nat → Prop} (hx : p.tables.exec = Jvm.exec) (hb : c.code = bM_clear) (hk : ∀ w ∈ W0, w.before args s = true) (hown : s.vm.findClass "ImageGcdsModel" = some m.cls) (hK : va_K (dC, dI) cls9 [(cA, .int)] s)
    (hexit : ∀ (f : Nat → Int32) (H : Heap) (locs : List Loc) (ls : Array Slot), va_P (dC, dI) cls9 (mN h0 th le 0 qn fs cA f) H → va_D A (mN h0 th le 0 qn fs cA f) → va_S A s.heap H locs → W p l e R s m args below meth c H locs cells slots Q (F0 m 28 ls [])) :
    ∀ (n i : Nat) (f : Nat → Int32) (H : Heap) (locs : List Loc) (ls : Array Slot), i ≤ 4096 → 4096 < i + n → va_P (dC, dI) cls9 (mN h0 th le 0 qn fs cA f) H → va_D A (mN h0 th le 0 qn fs cA f) → va_S A s.heap H locs → lv_has ls 3 [(2, .int (nI i)), (0, .ref h0), (1, .int 66)] → W p l e R s m args below meth c H locs cells slots Q (F0 m 2 ls []) := by
  intro n
  induction n with
  | zero => intro i f H locs ls h1 h2; exact absurd h2 (by omega)
  | succ n ih =>
    intro i f H locs ls hi hin hP hD hS hl
    refine lv_iload_n hx hb dM_clear_2 rfl (lv_at hl 0 rfl) ?_
    refine lv_sipush (v := 4096) hx hb dM_clear_3 (by decide) ?_
    refine lv_icmp_ge (tgt := 28) hx hb dM_clear_6 (by decide) (fun c1 => ?_) (fun c1 => ?_)
    · exact hexit f H locs ls hP hD hS
    · have hlt : i < 4096 := by
        rcases Nat.lt_or_ge i 4096 with q | q
        · exact q
        · exact absurd (show nI 4096 ≤ nI i from nI_le q (by omega)) c1
      refine lv_aload_n hx hb dM_clear_9 rfl (lv_at hl 1 rfl) ?_
      refine va_get (D := (dC, dI)) (ci := 2) (v := .ref qn) (C := "ImageGcdsModel") (T := TM) (N := 25) hx hb hk uM hown hK hP 0 rfl rfl 3 (by decide) (hk _ k102) (fun _ h9 => h9) rfl dM_clear_10 ?_
      refine lv_sipush (v := 4096) hx hb dM_clear_13 (by decide) ?_
      refine lv_iload_n hx hb dM_clear_16 rfl (lv_at hl 2 rfl) ?_
      refine lv_imul hx hb dM_clear_17 ?_
      refine lv_iload_n hx hb dM_clear_18 rfl (lv_at hl 0 rfl) ?_
      refine lv_iadd hx hb dM_clear_19 ?_
      refine lv_topi (fun x1 ex1 => ?_)
      have gx1 : x1 = nI (270336 + i) := by
        rw [ex1, show ((4096 : Int32) * 66) = nI 270336 by decide, nI_add]
      subst gx1
      have nx1 : vp_in (nI (270336 + i)) 290816 := vp_in_nI (by omega) (by decide)
      refine lv_iconst (v := 0) hx hb dM_clear_20 (by decide) ?_
      refine va_iast hx hb hK hP hD hS 1 0 rfl rfl nx1 dM_clear_21 (fun H locs hP hD hS => ?_)
      refine lv_iinc (v := nI (i + 1)) (lv' := [(2, .int (nI (i + 1))), (0, .ref h0), (1, .int 66)]) hx hb dM_clear_22 hl (k := 0) rfl (nI_succ i).symm (by decide) rfl (fun ls hl => ?_)
      refine lv_goto (tgt := 2) hx hb dM_clear_25 (by decide) ?_
      exact ih (i + 1) _ H locs ls (by omega) (by omega) hP hD hS hl
set_option maxHeartbeats 4000000 in
set_option maxRecDepth 100000 in
theorem cM_clear (l : Launch) (dC : Nat → ClassId) (dI : Nat → Nat → Nat) (h0 : Nat) (th le : Int32) (qn : Nat) (fs : List Value) (cA : ClassId) (f : Nat → Int32) (sz : Nat) : Met l yM_clear wM_clear ({ frames := 0, cells := 0, slots := 0, locals := 0 }) (va_Pc [.ref h0, .int 66] (nU dC dI (mN h0 th le 0 qn fs cA f) [(cA, .int)] sz)) (va_Qv (fun _ : Unit => True) (fun _ t => nT dC dI h0 th le 0 qn fs cA (va_A (mN h0 th le 0 qn fs cA f) sz) t) (va_A (mN h0 th le 0 qn fs cA f) sz)) 0 0 (va_A (mN h0 th le 0 qn fs cA f) sz) := by
  refine Met.ofW (cc := bM_clear) (maxL := 3) (ret := none) (by decide) rfl ?_
  intro p e s m args below meth c s₁ B hml hv
  obtain ⟨rfl, hsz, hP, hK, hD0⟩ := hv
  have hx := B.exec
  have hb := B.bytes
  have hr := B.returns
  have hts := atoms_spec (ws := wM_clear) B.pre
  have hk : ∀ w ∈ W0, w.before _ s = true := fun w h => hts w (List.mem_cons_of_mem _ h)
  have hown : s.vm.findClass "ImageGcdsModel" = some m.cls := findClass_of_methodNamed B.named
  have hlocks := B.notSynchronized
  subst hsz
  have hD := hD0.self (sz := s.heap.size)
  generalize va_A (mN h0 th le 0 qn fs cA f) s.heap.size = A at hD ⊢
  have hS : va_S A s.heap s.heap [] := va_S.rf
  have hl := lv_entry ([.ref h0, .int 66]) (n := 3) (Nat.le_of_ble_eq_true rfl)
  rw [lg_entry_eq]
  generalize (lg_sl ([.ref h0, .int 66]) ++ List.replicate (3 - (lg_sl ([.ref h0, .int 66])).length) Slot.unset).toArray = ls at hl ⊢
  have hl : lv_has ls 3 [(0, .ref h0), (1, .int 66)] := hl
  refine lv_iconst (v := 0) hx hb dM_clear_0 (by decide) ?_
  refine lv_istore_n (lv' := [(2, .int 0), (0, .ref h0), (1, .int 66)]) hx hb dM_clear_1 rfl hl (by decide) rfl (fun ls hl => ?_)
  exact lp_clear hx hb hk hown hK (fun f2 H locs ls hP hD hS => W.vret hx hb hr (fun t ht hW => ⟨⟨(), rfl, trivial, f2, by rw [ht]; exact hP, va_K.moved hW.alike hK, hD⟩, hS.F ht⟩) hS.2.2 dM_clear_28) 4097 0 f _ _ ls (Nat.zero_le _) (by decide) hP hD hS hl
set_option maxHeartbeats 4000000 in
set_option maxRecDepth 100000 in
theorem lp_copy {p : Program} {l : Launch} {e : Env} {R : Room} {s : State} {m : MethodId} {args : Array Value} {below : List Frame} {meth : Method} {c : Code} {Q : State → Prop} {cells slots : Nat} {dC : Nat → ClassId} {dI : Nat → Nat → Nat} {h0 : Nat} {th le : Int32} {qn : Nat} {fs : List Value} {cA : ClassId} {A : Nat → Prop} (hx : p.tables.exec = Jvm.exec) (hb : c.code = bM_copy) (hk : ∀ w ∈ W0, w.before args s = true) (hown : s.vm.findClass "ImageGcdsModel" = some m.cls) (hK : va_K (dC, dI) cls9 [(cA, .int)] s)
    (hexit : ∀ (f : Nat → Int32) (H : Heap) (locs : List Loc) (ls : Array Slot), va_P (dC, dI) cls9 (mN h0 th le 0 qn fs cA f) H → va_D A (mN h0 th le 0 qn fs cA f) → va_S A s.heap H locs → W p l e R s m args below meth c H locs cells slots Q (F0 m 39 ls [])) :
    ∀ (n i : Nat) (f : Nat → Int32) (H : Heap) (locs : List Loc) (ls : Array Slot), i ≤ 4096 → 4096 < i + n → va_P (dC, dI) cls9 (mN h0 th le 0 qn fs cA f) H → va_D A (mN h0 th le 0 qn fs cA f) → va_S A s.heap H locs → lv_has ls 4 [(3, .int (nI i)), (0, .ref h0), (1, .int 66), (2, .int 0)] → W p l e R s m args below meth c H locs cells slots Q (F0 m 2 ls []) := by
  intro n
  induction n with
  | zero => intro i f H locs ls h1 h2; exact absurd h2 (by omega)
  | succ n ih =>
    intro i f H locs ls hi hin hP hD hS hl
    refine lv_iload_n hx hb dM_copy_2 rfl (lv_at hl 0 rfl) ?_
    refine lv_sipush (v := 4096) hx hb dM_copy_3 (by decide) ?_
    refine lv_icmp_ge (tgt := 39) hx hb dM_copy_6 (by decide) (fun c1 => ?_) (fun c1 => ?_)
    · exact hexit f H locs ls hP hD hS
    · have hlt : i < 4096 := by
        rcases Nat.lt_or_ge i 4096 with q | q
        · exact q
        · exact absurd (show nI 4096 ≤ nI i from nI_le q (by omega)) c1
      refine lv_aload_n hx hb dM_copy_9 rfl (lv_at hl 1 rfl) ?_
      refine va_get (D := (dC, dI)) (ci := 2) (v := .ref qn) (C := "ImageGcdsModel") (T := TM) (N := 25) hx hb hk uM hown hK hP 0 rfl rfl 3 (by decide) (hk _ k102) (fun _ h9 => h9) rfl dM_copy_10 ?_
      refine lv_sipush (v := 4096) hx hb dM_copy_13 (by decide) ?_
      refine lv_iload_n hx hb dM_copy_16 rfl (lv_at hl 3 rfl) ?_
      refine lv_imul hx hb dM_copy_17 ?_
      refine lv_iload_n hx hb dM_copy_18 rfl (lv_at hl 0 rfl) ?_
      refine lv_iadd hx hb dM_copy_19 ?_
      refine lv_topi (fun x1 ex1 => ?_)
      have gx1 : x1 = nI (0 + i) := by
        rw [ex1, show ((4096 : Int32) * 0) = nI 0 by decide, nI_add]
      subst gx1
      have nx1 : vp_in (nI (0 + i)) 290816 := vp_in_nI (by omega) (by decide)
      refine lv_aload_n hx hb dM_copy_20 rfl (lv_at hl 1 rfl) ?_
      refine va_get (D := (dC, dI)) (ci := 2) (v := .ref qn) (C := "ImageGcdsModel") (T := TM) (N := 25) hx hb hk uM hown hK hP 0 rfl rfl 3 (by decide) (hk _ k102) (fun _ h9 => h9) rfl dM_copy_21 ?_
      refine lv_sipush (v := 4096) hx hb dM_copy_24 (by decide) ?_
      refine lv_iload_n hx hb dM_copy_27 rfl (lv_at hl 2 rfl) ?_
      refine lv_imul hx hb dM_copy_28 ?_
      refine lv_iload_n hx hb dM_copy_29 rfl (lv_at hl 0 rfl) ?_
      refine lv_iadd hx hb dM_copy_30 ?_
      refine lv_topi (fun x2 ex2 => ?_)
      have gx2 : x2 = nI (270336 + i) := by
        rw [ex2, show ((4096 : Int32) * 66) = nI 270336 by decide, nI_add]
      subst gx2
      have nx2 : vp_in (nI (270336 + i)) 290816 := vp_in_nI (by omega) (by decide)
      refine va_iald hx hb hK hP 1 0 rfl rfl nx2 dM_copy_31 ?_
      refine lv_topi (fun z ez => ?_)
      refine va_iast hx hb hK hP hD hS 1 0 rfl rfl nx1 dM_copy_32 (fun H locs hP hD hS => ?_)
      refine lv_iinc (v := nI (i + 1)) (lv' := [(3, .int (nI (i + 1))), (0, .ref h0), (1, .int 66), (2, .int 0)]) hx hb dM_copy_33 hl (k := 0) rfl (nI_succ i).symm (by decide) rfl (fun ls hl => ?_)
      refine lv_goto (tgt := 2) hx hb dM_copy_36 (by decide) ?_
      exact ih (i + 1) _ H locs ls (by omega) (by omega) hP hD hS hl
set_option maxHeartbeats 4000000 in
set_option maxRecDepth 100000 in
theorem cM_copy (l : Launch) (dC : Nat → ClassId) (dI : Nat → Nat → Nat) (h0 : Nat) (th le : Int32) (qn : Nat) (fs : List Value) (cA : ClassId) (f : Nat → Int32) (sz : Nat) : Met l yM_copy wM_copy ({ frames := 0, cells := 0, slots := 0, locals := 0 }) (va_Pc [.ref h0, .int 66, .int 0] (nU dC dI (mN h0 th le 0 qn fs cA f) [(cA, .int)] sz)) (va_Qv (fun _ : Unit => True) (fun _ t => nT dC dI h0 th le 0 qn fs cA (va_A (mN h0 th le 0 qn fs cA f) sz) t) (va_A (mN h0 th le 0 qn fs cA f) sz)) 0 0 (va_A (mN h0 th le 0 qn fs cA f) sz) := by
  refine Met.ofW (cc := bM_copy) (maxL := 4) (ret := none) (by decide) rfl ?_
  intro p e s m args below meth c s₁ B hml hv
  obtain ⟨rfl, hsz, hP, hK, hD0⟩ := hv
  have hx := B.exec
  have hb := B.bytes
  have hr := B.returns
  have hts := atoms_spec (ws := wM_copy) B.pre
  have hk : ∀ w ∈ W0, w.before _ s = true := fun w h => hts w (List.mem_cons_of_mem _ h)
  have hown : s.vm.findClass "ImageGcdsModel" = some m.cls := findClass_of_methodNamed B.named
  have hlocks := B.notSynchronized
  subst hsz
  have hD := hD0.self (sz := s.heap.size)
  generalize va_A (mN h0 th le 0 qn fs cA f) s.heap.size = A at hD ⊢
  have hS : va_S A s.heap s.heap [] := va_S.rf
  have hl := lv_entry ([.ref h0, .int 66, .int 0]) (n := 4) (Nat.le_of_ble_eq_true rfl)
  rw [lg_entry_eq]
  generalize (lg_sl ([.ref h0, .int 66, .int 0]) ++ List.replicate (4 - (lg_sl ([.ref h0, .int 66, .int 0])).length) Slot.unset).toArray = ls at hl ⊢
  have hl : lv_has ls 4 [(0, .ref h0), (1, .int 66), (2, .int 0)] := hl
  refine lv_iconst (v := 0) hx hb dM_copy_0 (by decide) ?_
  refine lv_istore_n (lv' := [(3, .int 0), (0, .ref h0), (1, .int 66), (2, .int 0)]) hx hb dM_copy_1 rfl hl (by decide) rfl (fun ls hl => ?_)
  exact lp_copy hx hb hk hown hK (fun f2 H locs ls hP hD hS => W.vret hx hb hr (fun t ht hW => ⟨⟨(), rfl, trivial, f2, by rw [ht]; exact hP, va_K.moved hW.alike hK, hD⟩, hS.F ht⟩) hS.2.2 dM_copy_39) 4097 0 f _ _ ls (Nat.zero_le _) (by decide) hP hD hS hl
set_option maxHeartbeats 4000000 in
set_option maxRecDepth 100000 in
theorem cM_thrown9 (l : Launch) (dC : Nat → ClassId) (dI : Nat → Nat → Nat) (h0 : Nat) (th le co : Int32) (fs : List Value) (sz : Nat) : Met l yM_thrown wM_thrown ({ frames := 0, cells := 0, slots := 0, locals := 0 }) (va_Pc [.ref h0] (nU dC dI (mW h0 th le co fs) [] sz)) (vp_Si (fun r => r = th)) 0 0 (fun _ => False) := by
  refine Met.ofW (cc := bM_thrown) (maxL := 1) (ret := (some .int)) (by decide) rfl ?_
  intro p e s m args below meth c s₁ B hml hv
  obtain ⟨rfl, hsz, hP, hK, hD0⟩ := hv
  have hx := B.exec
  have hb := B.bytes
  have hr := B.returns
  have hts := atoms_spec (ws := wM_thrown) B.pre
  have hk : ∀ w ∈ W0, w.before _ s = true := fun w h => hts w (List.mem_cons_of_mem _ h)
  have hown : s.vm.findClass "ImageGcdsModel" = some m.cls := findClass_of_methodNamed B.named
  have hlocks := B.notSynchronized
  have hl := lv_entry ([.ref h0]) (n := 1) (Nat.le_of_ble_eq_true rfl)
  rw [lg_entry_eq]
  generalize (lg_sl ([.ref h0]) ++ List.replicate (1 - (lg_sl ([.ref h0])).length) Slot.unset).toArray = ls at hl ⊢
  have hl : lv_has ls 1 [(0, .ref h0)] := hl
  refine lv_aload_n hx hb dM_thrown_0 rfl (lv_at hl 0 rfl) ?_
  refine va_get (D := (dC, dI)) (ci := 2) (v := .int th) (C := "ImageGcdsModel") (T := TM) (N := 25) hx hb hk uM hown hK hP 0 rfl rfl 0 (by decide) (hk _ k73) (fun _ h9 => h9) rfl dM_thrown_1 ?_
  exact W.iret (v := th) hx hb hr (fun t ht hW => ⟨_, rfl, rfl, ht⟩) (fun q h => nomatch h) dM_thrown_4
set_option maxHeartbeats 4000000 in
set_option maxRecDepth 100000 in
theorem cM_made (l : Launch) (dC : Nat → ClassId) (dI : Nat → Nat → Nat) (h0 : Nat) (th le : Int32) (qn : Nat) (fs : List Value) (cA : ClassId) (f : Nat → Int32) (sz : Nat) : Met l yM_made wM_made ({ frames := 1, cells := 0, slots := 0, locals := 30 }) (va_Pc [.ref h0, .int 66] (nU dC dI (mN h0 th le 0 qn fs cA f) [(cA, .int)] sz)) (va_Qi (fun (r : Int32) (_ : Unit) => r = 0) (fun _ t => nT dC dI h0 th le 1 qn fs cA (va_A (mN h0 th le 0 qn fs cA f) sz) t) (va_A (mN h0 th le 0 qn fs cA f) sz)) 0 0 (va_A (mN h0 th le 0 qn fs cA f) sz) := by
  refine Met.ofW (cc := bM_made) (maxL := 2) (ret := (some .int)) (by decide) rfl ?_
  intro p e s m args below meth c s₁ B hml hv
  obtain ⟨rfl, hsz, hP, hK, hD0⟩ := hv
  have hx := B.exec
  have hb := B.bytes
  have hr := B.returns
  have hts := atoms_spec (ws := wM_made) B.pre
  have hk : ∀ w ∈ W0, w.before _ s = true := fun w h => hts w (List.mem_cons_of_mem _ h)
  have hown : s.vm.findClass "ImageGcdsModel" = some m.cls := findClass_of_methodNamed B.named
  have hlocks := B.notSynchronized
  subst hsz
  have hD := hD0.self (sz := s.heap.size)
  generalize hAe : va_A (mN h0 th le 0 qn fs cA f) s.heap.size = A at hD ⊢
  have hA : ∀ q : Nat, s.heap.size ≤ q → A q := fun q h => by rw [← hAe]; exact Or.inr h
  have hS : va_S A s.heap s.heap [] := va_S.rf
  have hl := lv_entry ([.ref h0, .int 66]) (n := 2) (Nat.le_of_ble_eq_true rfl)
  rw [lg_entry_eq]
  generalize (lg_sl ([.ref h0, .int 66]) ++ List.replicate (2 - (lg_sl ([.ref h0, .int 66])).length) Slot.unset).toArray = ls at hl ⊢
  have hl : lv_has ls 2 [(0, .ref h0), (1, .int 66)] := hl
  refine lv_aload_n hx hb dM_made_0 rfl (lv_at hl 0 rfl) ?_
  refine lv_iload_n hx hb dM_made_1 rfl (lv_at hl 1 rfl) ?_
  refine lv_aload_n hx hb dM_made_2 rfl (lv_at hl 0 rfl) ?_
  refine va_get (D := (dC, dI)) (ci := 2) (v := .int 0) (C := "ImageGcdsModel") (T := TM) (N := 25) hx hb hk uM hown hK hP 0 rfl rfl 2 (by decide) (hk _ k66) (fun _ h9 => h9) rfl dM_made_3 ?_
  have hFc := va_free (wc := (mN h0 th le 0 qn fs cA f)) hD hS hA [0, 1] rfl
  refine va_callv (va_runV (As := [.int 66, .int 0]) (rest := []) ⟨hx, hb, hml, hown, hk⟩ (cM_copy l dC dI h0 th le qn fs cA f _) (cwV 2 hk (gV k124 k125 k126 k71 k127) rfl rfl rfl (by decide +kernel) ⟨Nat.le_of_ble_eq_true rfl, Nat.le_of_ble_eq_true rfl⟩) ⟨nBl, va_recv hK hP (ci := 2) (q0 := 0) rfl rfl, nPr hP hK hD⟩ rfl rfl hl.1 rfl (lv_room (Nat.le_of_ble_eq_true rfl)) dM_made_6 ⟨Nat.le_of_ble_eq_true rfl, Nat.le_of_ble_eq_true rfl⟩) hS (fun q _ h => hFc q h) hFc (fun u t H1 locs ht hvm hw hB hz1 hk1 hS => ?_)
  obtain ⟨f2, hP1, hK1, hD1⟩ := hB
  rw [ht] at hP1
  obtain ⟨hP, hD⟩ := va_join (wr := []) (w1 := (mN h0 th le 0 qn fs cA f2)) hP hD [0, 1] [] rfl rfl (by decide) (by decide) hk1 hFc hP1 hD1
  generalize H1 = H at hP hS ⊢
  have hP : va_P (dC, dI) cls9 (mN h0 th le 0 qn fs cA f2) H := hP
  have hD : va_D A (mN h0 th le 0 qn fs cA f2) := hD
  refine lv_aload_n hx hb dM_made_9 rfl (lv_at hl 0 rfl) ?_
  refine lv_dup hx hb dM_made_10 rfl ?_
  refine va_get (D := (dC, dI)) (ci := 2) (v := .int 0) (C := "ImageGcdsModel") (T := TM) (N := 25) hx hb hk uM hown hK hP 0 rfl rfl 2 (by decide) (hk _ k66) (fun _ h9 => h9) rfl dM_made_11 ?_
  refine lv_iconst (v := 1) hx hb dM_made_14 (by decide) ?_
  refine lv_iadd hx hb dM_made_15 ?_
  refine lv_topi (fun v1 ev1 => ?_)
  have ev1 : v1 = 1 := ev1.trans (by decide)
  subst ev1
  refine va_put (D := (dC, dI)) (ci := 2) (v := .int 1) (ty := .int) (C := "ImageGcdsModel") (T := TM) (N := 25) hx hb hk uM tM tM_ok nM hown hK hP hD hS 0 rfl rfl 2 (by decide) (hk _ k66) (fun _ h9 => h9) rfl (by decide +kernel) rfl rfl (by simp) dM_made_16 (fun H locs hP hD hS => ?_)
  have hP : va_P (dC, dI) cls9 (mN h0 th le 1 qn fs cA f2) H := hP
  have hD : va_D A (mN h0 th le 1 qn fs cA f2) := hD
  refine lv_aload_n hx hb dM_made_19 rfl (lv_at hl 0 rfl) ?_
  refine va_get (D := (dC, dI)) (ci := 2) (v := .int 1) (C := "ImageGcdsModel") (T := TM) (N := 25) hx hb hk uM hown hK hP 0 rfl rfl 2 (by decide) (hk _ k66) (fun _ h9 => h9) rfl dM_made_20 ?_
  refine lv_iconst (v := 1) hx hb dM_made_23 (by decide) ?_
  refine lv_isub hx hb dM_made_24 ?_
  refine lv_topi (fun v2 ev2 => ?_)
  have ev2 : v2 = 0 := ev2.trans (by decide)
  subst ev2
  exact W.iret (v := 0) hx hb hr (fun t ht hW => ⟨⟨0, (), rfl, rfl, f2, by rw [ht]; exact hP, va_K.moved hW.alike hK, hD⟩, hS.F ht⟩) hS.2.2 dM_made_25
set_option maxHeartbeats 4000000 in
set_option maxRecDepth 100000 in
theorem cM_poly (l : Launch) (dC : Nat → ClassId) (dI : Nat → Nat → Nat) (h0 : Nat) (th le : Int32) (qn : Nat) (fs : List Value) (cA : ClassId) (f : Nat → Int32) (sz : Nat) : Met l yM_poly wM_poly ({ frames := 2, cells := 0, slots := 0, locals := 60 }) (va_Pc [.ref h0] (nU dC dI (mN h0 th le 0 qn fs cA f) [(cA, .int)] sz)) (va_Qi (fun (r : Int32) (_ : Unit) => r = 0) (fun _ t => nT dC dI h0 0 le 1 qn fs cA (va_A (mN h0 th le 0 qn fs cA f) sz) t) (va_A (mN h0 th le 0 qn fs cA f) sz)) 0 0 (va_A (mN h0 th le 0 qn fs cA f) sz) := by
  refine Met.ofW (cc := bM_poly) (maxL := 1) (ret := (some .int)) (by decide) rfl ?_
  intro p e s m args below meth c s₁ B hml hv
  obtain ⟨rfl, hsz, hP, hK, hD0⟩ := hv
  have hx := B.exec
  have hb := B.bytes
  have hr := B.returns
  have hts := atoms_spec (ws := wM_poly) B.pre
  have hk : ∀ w ∈ W0, w.before _ s = true := fun w h => hts w (List.mem_cons_of_mem _ h)
  have hown : s.vm.findClass "ImageGcdsModel" = some m.cls := findClass_of_methodNamed B.named
  have hlocks := B.notSynchronized
  subst hsz
  have hD := hD0.self (sz := s.heap.size)
  generalize hAe : va_A (mN h0 th le 0 qn fs cA f) s.heap.size = A at hD ⊢
  have hA : ∀ q : Nat, s.heap.size ≤ q → A q := fun q h => by rw [← hAe]; exact Or.inr h
  have hS : va_S A s.heap s.heap [] := va_S.rf
  have hl := lv_entry ([.ref h0]) (n := 1) (Nat.le_of_ble_eq_true rfl)
  rw [lg_entry_eq]
  generalize (lg_sl ([.ref h0]) ++ List.replicate (1 - (lg_sl ([.ref h0])).length) Slot.unset).toArray = ls at hl ⊢
  have hl : lv_has ls 1 [(0, .ref h0)] := hl
  refine lv_aload_n hx hb dM_poly_0 rfl (lv_at hl 0 rfl) ?_
  refine lv_aload_n hx hb dM_poly_1 rfl (lv_at hl 0 rfl) ?_
  have hP0 := hP.sub (ws' := mW h0 th le 0 (.ref qn :: fs)) [0] rfl
  have hK0 := hK.sub (tys' := []) [] rfl
  refine vp_callSi (W.runV (As := []) (rest := [.ref h0]) ⟨hx, hb, hml, hown, hk⟩ (cM_isFull l dC dI h0 th le (.ref qn :: fs)) (cwV 0 hk (gV k85 k86 k87 k71 k88) rfl rfl rfl (by decide +kernel) ⟨Nat.le_of_ble_eq_true rfl, Nat.le_of_ble_eq_true rfl⟩) ⟨mB, va_recv hK0 hP0 (ci := 2) (q0 := 0) rfl rfl, mP hP0 hK0⟩ rfl rfl hl.1 rfl (lv_room (Nat.le_of_ble_eq_true rfl)) dM_poly_2 ⟨Nat.le_of_ble_eq_true rfl, Nat.le_of_ble_eq_true rfl⟩) (fun r1 hw => ?_)
  subst hw
  refine lv_iconst (v := 0) hx hb dM_poly_5 (by decide) ?_
  refine lv_iconst (v := 0) hx hb dM_poly_6 (by decide) ?_
  have hA0 : A h0 := hD.2 0 _ rfl
  have hne : ¬ qn = h0 := fun q => absurd (hD.1 1 0 _ _ rfl rfl q) (by decide)
  refine va_calli (va_runV (As := [.int 0, .int 0, .int 0]) (rest := []) ⟨hx, hb, hml, hown, hk⟩ (cM_fails0 l dC dI h0 th le (.ref qn :: fs)) (cwV 3 hk (gV k77 k78 k79 k71 k80) rfl rfl rfl (by decide +kernel) ⟨Nat.le_of_ble_eq_true rfl, Nat.le_of_ble_eq_true rfl⟩) ⟨mB, va_recv hK0 hP0 (ci := 2) (q0 := 0) rfl rfl, mP hP0 hK0⟩ rfl rfl hl.1 rfl (lv_room (Nat.le_of_ble_eq_true rfl)) dM_poly_7 ⟨Nat.le_of_ble_eq_true rfl, Nat.le_of_ble_eq_true rfl⟩) hS (fun q _ h => by rw [h]; exact hA0) (fun q h => by rw [h]; exact hA0) (fun r2 _ t H1 locs ht hvm hw hB hz1 hk1 hS => ?_)
  subst hw
  obtain ⟨hPo, hKo⟩ := hB
  rw [ht] at hPo
  have hPa : va_P (dC, dI) cls9 [(qn, .inl (cA, 290816, .inl f))] H1 := fun j x hx => by
    match j, hx with
    | 0, hx => cases hx; exact (hP 1 _ rfl).kept (hk1 qn (hP 1 _ rfl).lt hne)
    | j + 1, hx => simp at hx
  have hP : va_P (dC, dI) cls9 (mN h0 0 le 0 qn fs cA f) H1 := hPo.app hPa
  have hD : va_D A (mN h0 0 le 0 qn fs cA f) := hD.set (p := 0) (e := .inr (2, .int 0 :: .int le :: .int 0 :: .ref qn :: fs)) rfl
  generalize H1 = H at hP hS ⊢
  refine lv_if_eq (tgt := 15) hx hb dM_poly_10 (by decide) (fun c1 => ?_) (fun c1 => ?_)
  · skip
    refine lv_aload_n hx hb dM_poly_15 rfl (lv_at hl 0 rfl) ?_
    refine lv_bipush (v := 66) hx hb dM_poly_16 (by decide) ?_
    have hFc := va_free (wc := (mN h0 0 le 0 qn fs cA f)) hD hS hA [0, 1] rfl
    refine va_callv (va_runV (As := [.int 66]) (rest := []) ⟨hx, hb, hml, hown, hk⟩ (cM_clear l dC dI h0 0 le qn fs cA f _) (cwV 1 hk (gV k128 k129 k130 k71 k131) rfl rfl rfl (by decide +kernel) ⟨Nat.le_of_ble_eq_true rfl, Nat.le_of_ble_eq_true rfl⟩) ⟨nBl, va_recv hK hP (ci := 2) (q0 := 0) rfl rfl, nPr hP hK hD⟩ rfl rfl hl.1 rfl (lv_room (Nat.le_of_ble_eq_true rfl)) dM_poly_18 ⟨Nat.le_of_ble_eq_true rfl, Nat.le_of_ble_eq_true rfl⟩) hS (fun q _ h => hFc q h) hFc (fun u t H1 locs ht hvm hw hB hz1 hk1 hS => ?_)
    obtain ⟨f2, hP1, hK1, hD1⟩ := hB
    rw [ht] at hP1
    obtain ⟨hP, hD⟩ := va_join (wr := []) (w1 := (mN h0 0 le 0 qn fs cA f2)) hP hD [0, 1] [] rfl rfl (by decide) (by decide) hk1 hFc hP1 hD1
    generalize H1 = H at hP hS ⊢
    have hP : va_P (dC, dI) cls9 (mN h0 0 le 0 qn fs cA f2) H := hP
    have hD : va_D A (mN h0 0 le 0 qn fs cA f2) := hD
    refine lv_aload_n hx hb dM_poly_21 rfl (lv_at hl 0 rfl) ?_
    refine lv_bipush (v := 66) hx hb dM_poly_22 (by decide) ?_
    have hFc := va_free (wc := (mN h0 0 le 0 qn fs cA f2)) hD hS hA [0, 1] rfl
    refine va_calli (va_runV (As := [.int 66]) (rest := []) ⟨hx, hb, hml, hown, hk⟩ (cM_made l dC dI h0 0 le qn fs cA f2 _) (cwV 1 hk (gV k132 k133 k134 k71 k135) rfl rfl rfl (by decide +kernel) ⟨Nat.le_of_ble_eq_true rfl, Nat.le_of_ble_eq_true rfl⟩) ⟨nBl, va_recv hK hP (ci := 2) (q0 := 0) rfl rfl, nPr hP hK hD⟩ rfl rfl hl.1 rfl (lv_room (Nat.le_of_ble_eq_true rfl)) dM_poly_24 ⟨Nat.le_of_ble_eq_true rfl, Nat.le_of_ble_eq_true rfl⟩) hS (fun q _ h => hFc q h) hFc (fun r3 u t H1 locs ht hvm hw hB hz1 hk1 hS => ?_)
    subst hw
    obtain ⟨f3, hP1, hK1, hD1⟩ := hB
    rw [ht] at hP1
    obtain ⟨hP, hD⟩ := va_join (wr := []) (w1 := mN h0 0 le 1 qn fs cA f3) hP hD [0, 1] [] rfl rfl (by decide) (by decide) hk1 hFc hP1 hD1
    generalize H1 = H at hP hS ⊢
    exact W.iret (v := 0) hx hb hr (fun t ht hW => ⟨⟨0, (), rfl, rfl, f3, by rw [ht]; exact hP, va_K.moved hW.alike hK, hD⟩, hS.F ht⟩) hS.2.2 dM_poly_27
  · exact absurd rfl c1
end
section
set_option maxHeartbeats 4000000 in
set_option maxRecDepth 100000 in
theorem cG_requireRoom (l : Launch) (dC : Nat → ClassId) (dI : Nat → Nat → Nat) (h0 : Nat) (le : Int32) (qp sz : Nat) : Met l yG_requireRoom wG_requireRoom ({ frames := 0, cells := 0, slots := 0, locals := 0 }) (va_Pc [.ref h0] (nU dC dI [(h0, .inr (0, [.int le, .ref qp, .int 0, .null]))] [] sz)) (va_Sv (fun _ => True)) 0 0 (fun _ => False) := by
  refine Met.ofW (cc := bG_requireRoom) (maxL := 1) (ret := none) (by decide) rfl ?_
  intro p e s m args below meth c s₁ B hml hv
  obtain ⟨rfl, hsz, hP, hK, hD0⟩ := hv
  have hx := B.exec
  have hb := B.bytes
  have hr := B.returns
  have hts := atoms_spec (ws := wG_requireRoom) B.pre
  have hk : ∀ w ∈ W0, w.before _ s = true := fun w h => hts w (List.mem_cons_of_mem _ h)
  have hown : s.vm.findClass "ImageGcds" = some m.cls := findClass_of_methodNamed B.named
  have hlocks := B.notSynchronized
  have hl := lv_entry ([.ref h0]) (n := 1) (Nat.le_of_ble_eq_true rfl)
  rw [lg_entry_eq]
  generalize (lg_sl ([.ref h0]) ++ List.replicate (1 - (lg_sl ([.ref h0])).length) Slot.unset).toArray = ls at hl ⊢
  have hl : lv_has ls 1 [(0, .ref h0)] := hl
  refine lv_aload_n hx hb dG_requireRoom_0 rfl (lv_at hl 0 rfl) ?_
  refine va_get (D := (dC, dI)) (ci := 0) (v := .int 0) (C := "ImageGcds") (T := TG) (N := 4) hx hb hk uG hown hK hP 0 rfl rfl 2 (by decide) (hk _ k2) (fun _ h9 => h9) rfl dG_requireRoom_1 ?_
  refine lv_bipush (v := 60) hx hb dG_requireRoom_4 (by decide) ?_
  refine lv_icmp_lt (tgt := 19) hx hb dG_requireRoom_6 (by decide) (fun c173 => ?_) (fun c173 => ?_)
  · skip
    exact W.vret hx hb hr (fun t ht hW => ⟨rfl, trivial, ht⟩) (fun q h => nomatch h) dG_requireRoom_19
  · skip
    exact absurd c173 (by decide)
set_option maxHeartbeats 4000000 in
set_option maxRecDepth 100000 in
theorem cG_keep (l : Launch) (dC : Nat → ClassId) (dI : Nat → Nat → Nat) (h0 : Nat) (le : Int32) (qp : Nat) (cA : ClassId) (pa : Nat) (fs : List Value) (sz : Nat) : Met l yG_keep wG_keep ({ frames := 0, cells := 0, slots := 0, locals := 0 }) (va_Pc [.ref h0, .ref pa] (nU dC dI [(h0, .inr (0, [.int le, .ref qp, .int 0, .null])), (qp, .inl (cA, 60, .inr (.inr (.inr (.inr (fun _ => none)))))), (pa, .inr (1, fs))] [(cA, .object "ImageGcds$Poly")] sz)) (va_Qi (fun (r : Int32) (_ : Unit) => r = 0) (fun _ _ => True) (va_A [(h0, .inr (0, [.int le, .ref qp, .int 0, .null])), (qp, .inl (cA, 60, .inr (.inr (.inr (.inr (fun _ => none)))))), (pa, .inr (1, fs))] sz)) 0 0 (va_A [(h0, .inr (0, [.int le, .ref qp, .int 0, .null])), (qp, .inl (cA, 60, .inr (.inr (.inr (.inr (fun _ => none)))))), (pa, .inr (1, fs))] sz) := by
  refine Met.ofW (cc := bG_keep) (maxL := 2) (ret := (some .int)) (by decide) rfl ?_
  intro p e s m args below meth c s₁ B hml hv
  obtain ⟨rfl, hsz, hP, hK, hD0⟩ := hv
  have hx := B.exec
  have hb := B.bytes
  have hr := B.returns
  have hts := atoms_spec (ws := wG_keep) B.pre
  have hk : ∀ w ∈ W0, w.before _ s = true := fun w h => hts w (List.mem_cons_of_mem _ h)
  have hown : s.vm.findClass "ImageGcds" = some m.cls := findClass_of_methodNamed B.named
  have hlocks := B.notSynchronized
  subst hsz
  have hD := hD0.self (sz := s.heap.size)
  generalize hAe : va_A [(h0, .inr (0, [.int le, .ref qp, .int 0, .null])), (qp, .inl (cA, 60, .inr (.inr (.inr (.inr (fun _ => none)))))), (pa, .inr (1, fs))] s.heap.size = A at hD ⊢
  have hA : ∀ q : Nat, s.heap.size ≤ q → A q := fun q h => by rw [← hAe]; exact Or.inr h
  have hS : va_S A s.heap s.heap [] := va_S.rf
  have hl := lv_entry ([.ref h0, .ref pa]) (n := 2) (Nat.le_of_ble_eq_true rfl)
  rw [lg_entry_eq]
  generalize (lg_sl ([.ref h0, .ref pa]) ++ List.replicate (2 - (lg_sl ([.ref h0, .ref pa])).length) Slot.unset).toArray = ls at hl ⊢
  have hl : lv_has ls 2 [(0, .ref h0), (1, .ref pa)] := hl
  refine lv_aload_n hx hb dG_keep_0 rfl (lv_at hl 0 rfl) ?_
  refine va_get (D := (dC, dI)) (ci := 0) (v := .int 0) (C := "ImageGcds") (T := TG) (N := 4) hx hb hk uG hown hK hP 0 rfl rfl 2 (by decide) (hk _ k2) (fun _ h9 => h9) rfl dG_keep_1 ?_
  refine lv_aload_n hx hb dG_keep_4 rfl (lv_at hl 0 rfl) ?_
  refine va_get (D := (dC, dI)) (ci := 0) (v := .ref qp) (C := "ImageGcds") (T := TG) (N := 4) hx hb hk uG hown hK hP 0 rfl rfl 1 (by decide) (hk _ k98) (fun _ h9 => h9) rfl dG_keep_5 ?_
  refine va_alen (v := 60) hx hb hK hP 1 0 rfl rfl rfl dG_keep_8 ?_
  refine lv_icmp_ge (tgt := 32) hx hb dG_keep_9 (by decide) (fun c174 => ?_) (fun c174 => ?_)
  · skip
    exact absurd c174 (by decide)
  · skip
    refine lv_aload_n hx hb dG_keep_12 rfl (lv_at hl 0 rfl) ?_
    refine va_get (D := (dC, dI)) (ci := 0) (v := .ref qp) (C := "ImageGcds") (T := TG) (N := 4) hx hb hk uG hown hK hP 0 rfl rfl 1 (by decide) (hk _ k98) (fun _ h9 => h9) rfl dG_keep_13 ?_
    refine lv_aload_n hx hb dG_keep_16 rfl (lv_at hl 0 rfl) ?_
    refine va_get (D := (dC, dI)) (ci := 0) (v := .int 0) (C := "ImageGcds") (T := TG) (N := 4) hx hb hk uG hown hK hP 0 rfl rfl 2 (by decide) (hk _ k2) (fun _ h9 => h9) rfl dG_keep_17 ?_
    refine lv_aload_n hx hb dG_keep_20 rfl (lv_at hl 1 rfl) ?_
    have hin : vp_in 0 60 := by rw [← nI_0]; exact vp_in_nI (by decide) (by decide)
    refine va_astq hx hb hK hP hD hS 1 0 2 1 rfl rfl rfl rfl hin dG_keep_21 (fun H locs hP hD hS => ?_)
    have hP : va_P (dC, dI) cls9 [(h0, .inr (0, [.int le, .ref qp, .int 0, .null])), (qp, .inl (cA, 60, .inr (.inr (.inr (.inr (va_up (fun _ => none) (0 : Int32).toNatClampNeg (some pa))))))), (pa, .inr (1, fs))] H := hP
    have hD : va_D A [(h0, .inr (0, [.int le, .ref qp, .int 0, .null])), (qp, .inl (cA, 60, .inr (.inr (.inr (.inr (va_up (fun _ => none) (0 : Int32).toNatClampNeg (some pa))))))), (pa, .inr (1, fs))] := hD
    refine lv_aload_n hx hb dG_keep_22 rfl (lv_at hl 0 rfl) ?_
    refine lv_dup hx hb dG_keep_23 rfl ?_
    refine va_get (D := (dC, dI)) (ci := 0) (v := .int 0) (C := "ImageGcds") (T := TG) (N := 4) hx hb hk uG hown hK hP 0 rfl rfl 2 (by decide) (hk _ k2) (fun _ h9 => h9) rfl dG_keep_24 ?_
    refine lv_iconst (v := 1) hx hb dG_keep_27 (by decide) ?_
    refine lv_iadd hx hb dG_keep_28 ?_
    refine lv_topi (fun v175 ev175 => ?_)
    refine va_put (D := (dC, dI)) (ci := 0) (v := .int v175) (ty := .int) (C := "ImageGcds") (T := TG) (N := 4) hx hb hk uG tG tG_ok nG hown hK hP hD hS 0 rfl rfl 2 (by decide) (hk _ k2) (fun _ h9 => h9) rfl (by decide +kernel) rfl rfl (Nat.le_of_ble_eq_true rfl) dG_keep_29 (fun H locs hP hD hS => ?_)
    have hP : va_P (dC, dI) cls9 [(h0, .inr (0, [.int le, .ref qp, .int v175, .null])), (qp, .inl (cA, 60, .inr (.inr (.inr (.inr (va_up (fun _ => none) (0 : Int32).toNatClampNeg (some pa))))))), (pa, .inr (1, fs))] H := hP
    have hD : va_D A [(h0, .inr (0, [.int le, .ref qp, .int v175, .null])), (qp, .inl (cA, 60, .inr (.inr (.inr (.inr (va_up (fun _ => none) (0 : Int32).toNatClampNeg (some pa))))))), (pa, .inr (1, fs))] := hD
    refine lv_aload_n hx hb dG_keep_32 rfl (lv_at hl 0 rfl) ?_
    refine va_get (D := (dC, dI)) (ci := 0) (v := .int v175) (C := "ImageGcds") (T := TG) (N := 4) hx hb hk uG hown hK hP 0 rfl rfl 2 (by decide) (hk _ k2) (fun _ h9 => h9) rfl dG_keep_33 ?_
    refine lv_iconst (v := 1) hx hb dG_keep_36 (by decide) ?_
    refine lv_isub hx hb dG_keep_37 ?_
    refine lv_topi (fun v176 ev176 => ?_)
    have hz : v176 = 0 := by rw [ev176, ev175]; decide
    exact W.iret (v := v176) hx hb hr (fun t ht hW => ⟨⟨_, (), rfl, hz, trivial⟩, hS.F ht⟩) hS.2.2 dG_keep_38
set_option maxHeartbeats 4000000 in
set_option maxRecDepth 100000 in
theorem cG_poly (l : Launch) (dC : Nat → ClassId) (dI : Nat → Nat → Nat) (h0 : Nat) (le : Int32) (qp : Nat) (cA : ClassId) (sz : Nat) : Met l yG_poly wG_poly ({ frames := 2, cells := 3, slots := 3, locals := 60 }) (va_Pc [.ref h0] (nU dC dI [(h0, .inr (0, [.int le, .ref qp, .int 0, .null])), (qp, .inl (cA, 60, .inr (.inr (.inr (.inr (fun _ => none))))))] [(cA, .object "ImageGcds$Poly")] sz)) (va_Qi (fun (r : Int32) (_ : Unit) => r = 0) (fun _ _ => True) (va_A [(h0, .inr (0, [.int le, .ref qp, .int 0, .null])), (qp, .inl (cA, 60, .inr (.inr (.inr (.inr (fun _ => none))))))] sz)) 3 3 (va_A [(h0, .inr (0, [.int le, .ref qp, .int 0, .null])), (qp, .inl (cA, 60, .inr (.inr (.inr (.inr (fun _ => none))))))] sz) := by
  refine Met.ofW (cc := bG_poly) (maxL := 1) (ret := (some .int)) (by decide) rfl ?_
  intro p e s m args below meth c s₁ B hml hv
  obtain ⟨rfl, hsz, hP, hK, hD0⟩ := hv
  have hx := B.exec
  have hb := B.bytes
  have hr := B.returns
  have hts := atoms_spec (ws := wG_poly) B.pre
  have hk : ∀ w ∈ W0, w.before _ s = true := fun w h => hts w (List.mem_cons_of_mem _ h)
  have hown : s.vm.findClass "ImageGcds" = some m.cls := findClass_of_methodNamed B.named
  have hlocks := B.notSynchronized
  subst hsz
  have hD := hD0.self (sz := s.heap.size)
  generalize hAe : va_A [(h0, .inr (0, [.int le, .ref qp, .int 0, .null])), (qp, .inl (cA, 60, .inr (.inr (.inr (.inr (fun _ => none))))))] s.heap.size = A at hD ⊢
  have hA : ∀ q : Nat, s.heap.size ≤ q → A q := fun q h => by rw [← hAe]; exact Or.inr h
  have hS : va_S A s.heap s.heap [] := va_S.rf
  have hl := lv_entry ([.ref h0]) (n := 1) (Nat.le_of_ble_eq_true rfl)
  rw [lg_entry_eq]
  generalize (lg_sl ([.ref h0]) ++ List.replicate (1 - (lg_sl ([.ref h0])).length) Slot.unset).toArray = ls at hl ⊢
  have hl : lv_has ls 1 [(0, .ref h0)] := hl
  refine lv_aload_n hx hb dG_poly_0 rfl (lv_at hl 0 rfl) ?_
  have hP0 := hP.sub (ws' := [(h0, .inr (0, [.int le, .ref qp, .int 0, .null]))]) [0] rfl
  have hD0 := hD.sub (ws' := [(h0, .inr (0, [.int le, .ref qp, .int 0, .null]))]) [0] (by decide) rfl
  have hK0 := hK.sub (tys' := []) [] rfl
  refine va_csv (W.runV (As := []) (rest := []) ⟨hx, hb, hml, hown, hk⟩ (cG_requireRoom l dC dI h0 le qp _) (cwV 0 hk (gV k136 k137 k138 k6 k139) rfl rfl rfl (by decide +kernel) ⟨Nat.le_of_ble_eq_true rfl, Nat.le_of_ble_eq_true rfl⟩) ⟨nBl, va_recv hK0 hP0 (ci := 0) (q0 := 0) rfl rfl, nPr hP0 hK0 hD0⟩ rfl rfl hl.1 rfl (lv_room (Nat.le_of_ble_eq_true rfl)) dG_poly_1 ⟨Nat.le_of_ble_eq_true rfl, Nat.le_of_ble_eq_true rfl⟩) (fun _ => ?_)
  refine lv_aload_n hx hb dG_poly_4 rfl (lv_at hl 0 rfl) ?_
  refine va_new (ci := 1) (fs := [.int 0, .null, .null]) (C := "ImageGcds$Poly") (T := TP) (N := 3) hx hb hk uP tP tP_ok hown (hk _ k97) (hk _ k140) (hk _ k141) hK hP hD hS hA rfl (fun j hj => by rcases (show j = 0 ∨ j = 1 ∨ j = 2 by omega) with rfl | rfl | rfl <;> rfl) (Nat.le_of_ble_eq_true rfl) (Nat.le_of_ble_eq_true rfl) dG_poly_5 (fun q5 H hP hD hS => ?_)
  have hP : va_P (dC, dI) cls9 [(h0, .inr (0, [.int le, .ref qp, .int 0, .null])), (qp, .inl (cA, 60, .inr (.inr (.inr (.inr (fun _ => none)))))), (q5, .inr (1, [.int 0, .null, .null]))] H := hP
  have hD : va_D A [(h0, .inr (0, [.int le, .ref qp, .int 0, .null])), (qp, .inl (cA, 60, .inr (.inr (.inr (.inr (fun _ => none)))))), (q5, .inr (1, [.int 0, .null, .null]))] := hD
  refine lv_dup hx hb dG_poly_8 rfl ?_
  refine lv_iconst (v := 0) hx hb dG_poly_9 (by decide) ?_
  have hPc := hP.sub (ws' := [(q5, .inr (1, [.int 0, .null, .null]))]) [2] rfl
  have hFc := va_free (wc := [(q5, .inr (1, [.int 0, .null, .null]))]) hD hS hA [2] rfl
  refine va_callv (va_runI (As := [.int 0]) (rest := [.ref q5, .ref h0]) ⟨hx, hb, hml, hown, hk⟩ (cP_init l dC dI q5 _) (cwI 1 hk (gI k142) rfl rfl rfl (hk _ k141) (hk _ k143) (hk _ k144) rfl (by decide +kernel) ⟨Nat.le_of_ble_eq_true rfl, Nat.le_of_ble_eq_true rfl⟩) ⟨fun a U g mk q => ⟨q.1, q.2.1, q.2.2.1, va_K.moved (u := U) (U := U.calling g mk a) (Vm.Alike.refl U.vm) q.2.2.2⟩, fun U hU hW => ⟨rfl, by rw [hU], by rw [hU]; exact hPc, va_K.moved hW.alike hK0⟩⟩ rfl rfl hl.1 rfl (lv_room (Nat.le_of_ble_eq_true rfl)) dG_poly_10 ⟨Nat.le_of_ble_eq_true rfl, Nat.le_of_ble_eq_true rfl⟩) hS (fun q _ h => hFc q h) hFc (fun u t H1 locs ht hvm hw hB hz1 hk1 hS => ?_)
  obtain ⟨q1, q2, hP1, hK1, hD1⟩ := hB
  rw [ht] at hP1
  obtain ⟨hP, hD⟩ := va_join (wr := [(h0, .inr (0, [.int le, .ref qp, .int 0, .null])), (qp, .inl (cA, 60, .inr (.inr (.inr (.inr (fun _ => none))))))]) (w1 := [(q5, .inr (1, [.int 0, .ref q1, .ref q2]))]) hP hD [2] [0, 1] rfl rfl (by decide) (by decide) hk1 hFc hP1 hD1
  generalize H1 = H at hP hS ⊢
  have hP : va_P (dC, dI) cls9 [(h0, .inr (0, [.int le, .ref qp, .int 0, .null])), (qp, .inl (cA, 60, .inr (.inr (.inr (.inr (fun _ => none)))))), (q5, .inr (1, [.int 0, .ref q1, .ref q2]))] H := hP
  have hD : va_D A [(h0, .inr (0, [.int le, .ref qp, .int 0, .null])), (qp, .inl (cA, 60, .inr (.inr (.inr (.inr (fun _ => none)))))), (q5, .inr (1, [.int 0, .ref q1, .ref q2]))] := hD
  have hFc := va_free (wc := [(h0, .inr (0, [.int le, .ref qp, .int 0, .null])), (qp, .inl (cA, 60, .inr (.inr (.inr (.inr (fun _ => none)))))), (q5, .inr (1, [.int 0, .ref q1, .ref q2]))]) hD hS hA [0, 1, 2] rfl
  refine va_calli (va_runV (As := [.ref q5]) (rest := []) ⟨hx, hb, hml, hown, hk⟩ (cG_keep l dC dI h0 le qp cA q5 [.int 0, .ref q1, .ref q2] _) (cwV 1 hk (gV k145 k146 k147 k6 k148) rfl rfl rfl (by decide +kernel) ⟨Nat.le_of_ble_eq_true rfl, Nat.le_of_ble_eq_true rfl⟩) ⟨nBl, va_recv hK hP (ci := 0) (q0 := 0) rfl rfl, nPr hP hK hD⟩ rfl rfl hl.1 rfl (lv_room (Nat.le_of_ble_eq_true rfl)) dG_poly_13 ⟨Nat.le_of_ble_eq_true rfl, Nat.le_of_ble_eq_true rfl⟩) hS (fun q _ h => hFc q h) hFc (fun r3 u t H1 locs ht hvm hw hB hz1 hk1 hS => ?_)
  subst hw
  refine W.widen (k := 3) (n := 3) (Nat.le_of_ble_eq_true rfl) (Nat.le_of_ble_eq_true rfl) ?_
  exact W.iret (v := 0) hx hb hr (fun t ht hW => ⟨⟨0, (), rfl, rfl, trivial⟩, hS.F ht⟩) hS.2.2 dG_poly_16
set_option maxHeartbeats 4000000 in
set_option maxRecDepth 100000 in
theorem cL_poly (l : Launch) (dC : Nat → ClassId) (dI : Nat → Nat → Nat) (h0 : Nat) (le : Int32) (qp : Nat) (cA : ClassId) (po : Nat) (cL : ClassId) (fo : Nat → Int64) (sz : Nat) : Met l yL_poly wL_poly ({ frames := 3, cells := 3, slots := 3, locals := 90 }) (va_Pc [.ref h0, .ref po] (nU dC dI [(h0, .inr (0, [.int le, .ref qp, .int 0, .null])), (qp, .inl (cA, 60, .inr (.inr (.inr (.inr (fun _ => none)))))), (po, .inl (cL, 1, .inr (.inl fo)))] [(cA, .object "ImageGcds$Poly"), (cL, .long)] sz)) (va_Qi (fun (r : Int32) (_ : Unit) => r = 0) (fun _ t => ∃ g : Nat → Int64, g 0 = 0 ∧ va_P (dC, dI) cls9 [(po, .inl (cL, 1, .inr (.inl g)))] t.heap ∧ va_D (va_A [(h0, .inr (0, [.int le, .ref qp, .int 0, .null])), (qp, .inl (cA, 60, .inr (.inr (.inr (.inr (fun _ => none)))))), (po, .inl (cL, 1, .inr (.inl fo)))] sz) [(po, .inl (cL, 1, .inr (.inl g)))]) (va_A [(h0, .inr (0, [.int le, .ref qp, .int 0, .null])), (qp, .inl (cA, 60, .inr (.inr (.inr (.inr (fun _ => none)))))), (po, .inl (cL, 1, .inr (.inl fo)))] sz)) 3 3 (va_A [(h0, .inr (0, [.int le, .ref qp, .int 0, .null])), (qp, .inl (cA, 60, .inr (.inr (.inr (.inr (fun _ => none)))))), (po, .inl (cL, 1, .inr (.inl fo)))] sz) := by
  refine va_MetW (cc := bL_poly) (maxL := 3) (ret := (some .int)) (by decide) rfl ?_
  intro p e s m args below meth c s₁ B hml hv
  obtain ⟨rfl, hsz, hP, hK, hD0⟩ := hv
  have hx := B.exec
  have hb := B.bytes
  have hr := B.returns
  have hts := atoms_spec (ws := wL_poly) B.pre
  have hk : ∀ w ∈ W0, w.before _ s = true := fun w h => hts w (List.mem_cons_of_mem _ h)
  have hown : s.vm.findClass "ImageGcdsLaw" = some m.cls := findClass_of_methodNamed B.named
  have hlocks := B.notSynchronized
  subst hsz
  have hD := hD0.self (sz := s.heap.size)
  generalize hAe : va_A [(h0, .inr (0, [.int le, .ref qp, .int 0, .null])), (qp, .inl (cA, 60, .inr (.inr (.inr (.inr (fun _ => none)))))), (po, .inl (cL, 1, .inr (.inl fo)))] s.heap.size = A at hD ⊢
  have hA : ∀ q : Nat, s.heap.size ≤ q → A q := fun q h => by rw [← hAe]; exact Or.inr h
  have hS : va_S A s.heap s.heap [] := va_S.rf
  have hl := lv_entry ([.ref h0, .ref po]) (n := 3) (Nat.le_of_ble_eq_true rfl)
  rw [lg_entry_eq]
  generalize (lg_sl ([.ref h0, .ref po]) ++ List.replicate (3 - (lg_sl ([.ref h0, .ref po])).length) Slot.unset).toArray = ls at hl ⊢
  have hl : lv_has ls 3 [(0, .ref h0), (1, .ref po)] := hl
  refine lv_aload_n hx hb dL_poly_0 rfl (lv_at hl 1 rfl) ?_
  refine lv_iconst (v := 0) hx hb dL_poly_1 (by decide) ?_
  refine lv_aload_n hx hb dL_poly_2 rfl (lv_at hl 0 rfl) ?_
  have hP0 := hP.sub (ws' := [(h0, .inr (0, [.int le, .ref qp, .int 0, .null])), (qp, .inl (cA, 60, .inr (.inr (.inr (.inr (fun _ => none))))))]) [0, 1] rfl
  have hD0 := hD.sub (ws' := [(h0, .inr (0, [.int le, .ref qp, .int 0, .null])), (qp, .inl (cA, 60, .inr (.inr (.inr (.inr (fun _ => none))))))]) [0, 1] (by decide) rfl
  have hK0 := hK.sub (tys' := [(cA, .object "ImageGcds$Poly")]) [0] rfl
  have hFc := va_free (wc := [(h0, .inr (0, [.int le, .ref qp, .int 0, .null])), (qp, .inl (cA, 60, .inr (.inr (.inr (.inr (fun _ => none))))))]) hD hS hA [0, 1] rfl
  refine va_calli (va_runV (As := []) (rest := [.int 0, .ref po]) ⟨hx, hb, hml, hown, hk⟩ (cG_poly l dC dI h0 le qp cA _) (cwV 0 hk (gV k149 k150 k151 k6 k152) rfl rfl rfl (by decide +kernel) ⟨Nat.le_of_ble_eq_true rfl, Nat.le_of_ble_eq_true rfl⟩) ⟨nBl, va_recv hK0 hP0 (ci := 0) (q0 := 0) rfl rfl, nPr hP0 hK0 hD0⟩ rfl rfl hl.1 rfl (lv_room (Nat.le_of_ble_eq_true rfl)) dL_poly_3 ⟨Nat.le_of_ble_eq_true rfl, Nat.le_of_ble_eq_true rfl⟩) hS (fun q _ h => hFc q h) hFc (fun r3 u t H1 locs ht hvm hw hB hz1 hk1 hS => ?_)
  subst hw
  obtain ⟨hP, hD⟩ := va_join (wr := [(po, .inl (cL, 1, .inr (.inl fo)))]) (w1 := []) hP hD [0, 1] [2] rfl rfl (by decide) (by decide) hk1 hFc (fun j x hx => by simp at hx) ⟨fun i j x y hx => by simp at hx, fun j x hx => by simp at hx⟩
  generalize H1 = H at hP hS ⊢
  have hP : va_P (dC, dI) cls9 [(po, .inl (cL, 1, .inr (.inl fo)))] H := hP
  have hD : va_D A [(po, .inl (cL, 1, .inr (.inl fo)))] := hD
  refine lv_i2l (v := 0) hx hb dL_poly_6 (by decide) ?_
  have hin : vp_in 0 1 := by rw [← nI_0]; exact vp_in_nI (by decide) (by decide)
  refine va_last hx hb hK hP hD hS 0 1 rfl rfl hin dL_poly_7 (fun H locs hP hD hS => ?_)
  refine lv_goto (tgt := 14) hx hb dL_poly_8 (by decide) ?_
  refine lv_iconst (v := 0) hx hb dL_poly_14 (by decide) ?_
  refine W.widen (k := 3) (n := 3) (Nat.le_of_ble_eq_true rfl) (Nat.le_of_ble_eq_true rfl) ?_
  exact W.iret (v := 0) hx hb hr (fun t ht hW => ⟨⟨0, (), rfl, rfl, _, rfl, by rw [ht]; exact hP, hD⟩, hS.F ht⟩) hS.2.2 dL_poly_15
end
